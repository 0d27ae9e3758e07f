/-! the relation between class and reference -/
def kOkn (N : Nat) (len : kF) : Prop := kLen N len ∧ kNR (kG N len)
noncomputable def kUl (bg en ln : kF) (sl S k : Nat) (len : kF) : kF := upd len ((bg (sl * 30 + (S - k - 1))).toNatClampNeg * 24 + (en (sl * 30 + (S - k - 1))).toNatClampNeg) (ln (sl * 30 + (S - k - 1)))
noncomputable def kUn (bg en ln : kF) (sl S : Nat) (len : kF) : kF := kItr (kUl bg en ln sl S) S len
def kChain (N O : Nat) (sz bg en ln : kF) : Nat → kF → Prop
  | 0, len => kOkn N len
  | i + 1, len => kOkn N len ∧ kChain N O sz bg en ln i (kUn bg en ln ((O + i) % 41) (sz ((O + i) % 41)).toNatClampNeg len)
def rEnt (bg en ln qp qe : kF) (sl q i : Nat) : Prop := q ≤ 30 ∧ ∀ r, r < q → ∃ a b, a < 24 ∧ b < 24 ∧ (ln (sl * 30 + r)).toInt ≤ 1000 ∧ bg (sl * 30 + r) = nI a ∧ en (sl * 30 + r) = nI b ∧ qp (i * 30 + r) = nI (a * 24 + b) ∧ qe (i * 30 + r) = kTo (ln (sl * 30 + r))
/-- what is kept -/
def rHis (K O : Nat) (sz bg en ln mn qp qe : kF) (ib : Int32) : Prop := K ≤ 40 ∧ O < 41 ∧ (∀ i, i < K → ∃ q, sz ((O + i) % 41) = nI q ∧ mn i = nI q ∧ rEnt bg en ln qp qe ((O + i) % 41) q i) ∧
  ∃ q, sz ((O + K) % 41) = nI q ∧ (ib = 0 → q = 0) ∧ (¬ ib = 0 → mn K = nI q) ∧ rEnt bg en ln qp qe ((O + K) % 41) q K
/-- a source -/
def rSrc (N : Nat) (V : kF) (x : kSo) (y a : Int32) (xd xh xp xt : kF) (z : Nat) : Prop := x.1 = y ∧ kPl N y ∧ x.2.1 = a ∧ mRow x.2.2.1 xd xh xp xt z ∧ kEqW x.2.2.1 (kSettle N V y)
/-- the net as it was ahead of the open changes -/
noncomputable def kVn (S : kSt) : kF := kUn S.2.1.2.2.2.1 S.2.1.2.2.2.2.1 S.2.1.2.2.2.2.2 ((S.2.1.2.1 + S.2.1.1) % 41) (S.2.1.2.2.1 ((S.2.1.2.1 + S.2.1.1) % 41)).toNatClampNeg S.1.2.2
def kR (S : kSt) (T : mT) : Prop :=
  (S.1.1 = T.1.1 ∧ kOkn S.1.1 S.1.2.2 ∧ kXc S.1.2.2 T.1.2.1 ∧ S.1.2.1 = kItr (mArcs T.1.2.1) 576 0) ∧
  (S.2.1.1 = T.2.2.2.1.1 ∧ rHis S.2.1.1 S.2.1.2.1 S.2.1.2.2.1 S.2.1.2.2.2.1 S.2.1.2.2.2.2.1 S.2.1.2.2.2.2.2 T.2.2.2.1.2.1 T.2.2.2.1.2.2.1 T.2.2.2.1.2.2.2 S.2.2.2.2.1.1 ∧ kChain S.1.1 S.2.1.2.1 S.2.1.2.2.1 S.2.1.2.2.2.1 S.2.1.2.2.2.2.1 S.2.1.2.2.2.2.2 S.2.1.1 (kVn S)) ∧
  (∀ z, z < 3 → rSrc S.1.1 (kVn S) (kSel S z) (T.1.2.2 z) (T.2.1.2.2.2.2 z) T.2.1.1 T.2.1.2.1 T.2.1.2.2.1 T.2.1.2.2.2.1 z) ∧
  (S.2.2.2.2.1.1 = T.2.2.2.2.2.1 ∧ S.2.2.2.2.1.2 = T.2.2.2.2.2.2.1) ∧
  (S.2.2.2.1.2 = T.2.2.2.2.2.2.2.1 ∧ ∃ M, M ≤ 24 ∧ S.2.2.2.1.2 = nI M ∧ ∀ i, i < M → S.2.2.2.1.1 i = T.2.2.2.2.2.2.2.2 i)
-- nodes and sources by number, on both sides
theorem kNode_iff {N : Nat} {v : Int32} (hN : N ≤ 24) : kNode N v ↔ ∃ j, j < N ∧ v = nI j := ⟨kNode_n hN, fun ⟨j, h, e⟩ => e ▸ kNode_i hN h⟩
theorem mNode_iff {N : Nat} {v : Int32} (hN : N ≤ 24) : mNode N v ↔ ∃ j, j < N ∧ v = nI j := ⟨mNode_n hN, fun ⟨j, h, e⟩ => e ▸ mNode_i hN h⟩
theorem kN_m {N : Nat} {v : Int32} (hN : N ≤ 24) : kNode N v ↔ mNode N v := (kNode_iff hN).trans (mNode_iff hN).symm
theorem kT_m {N : Nat} {a b : Int32} (hN : N ≤ 24) : kTwo N a b ↔ mTwo N a b := by
  unfold kTwo mTwo; rw [kN_m hN, kN_m hN]
theorem kS_m {k : Int32} : kIsS k ↔ mIn k 0 2 := by
  constructor
  · intro h
    rcases kIsS_n h with rfl | rfl | rfl <;> exact ⟨by decide, by decide⟩
  · intro h
    obtain ⟨z, hz, rfl⟩ := mIn3 h
    rcases (show z = 0 ∨ z = 1 ∨ z = 2 by omega) with rfl | rfl | rfl <;> exact ⟨by decide, by decide⟩
theorem kTo_back {N : Nat} {len : kF} (hL : kLen N len) {u v : Nat} (hu : u < 24) (hv : v < 24) : kFrom (kTo (len (u * 24 + v))) = len (u * 24 + v) := by
  unfold kFrom
  by_cases q : len (u * 24 + v) = (-1000000)
  · rw [kIf_t ((kTo_no hL hu hv).mpr q), q]
  · rw [kIf_f (fun z => q ((kTo_no hL hu hv).mp z)), kTo_some q]
theorem kR_N {S : kSt} {T : mT} (h : kR S T) : S.1.1 ≤ 24 := h.1.2.1.1.1
theorem kR_th {S : kSt} {T : mT} (h : kR S T) : kR S (mTh T) := h
theorem kR_arc {S : kSt} {T : mT} (a b : Int32) (h : kR S T) : fArc S a b = gArc T a b := by
  have hN := kR_N h
  obtain ⟨⟨e1, ⟨hL, hn⟩, hx, -⟩, -⟩ := h
  unfold fArc gArc
  rw [← e1]
  by_cases q : kTwo S.1.1 a b
  · rw [kIf_t q, kIf_t ((kT_m hN).mp q)]
    obtain ⟨i, hi, rfl⟩ := kNode_n hN q.1
    obtain ⟨j, hj, rfl⟩ := kNode_n hN q.2.1
    rw [nI_clamp (n := i) (by omega), nI_clamp (n := j) (by omega), hx i j (by omega) (by omega)]
    exact (kTo_back hL (by omega) (by omega)).symm
  · rw [kIf_f q, kIf_f (fun z => q ((kT_m hN).mpr z))]
theorem kGood_iff {N : Nat} {k v : Int32} (hN : N ≤ 24) : (kIsS k ∧ kNode N v) ↔ mGood N k v := by
  unfold mGood; rw [kS_m, kN_m hN]
theorem kR_dist {S : kSt} {T : mT} (k v : Int32) (h : kR S T) : fDist S k v = gDist T k v ∧ fHops S k v = gHops T k v ∧ fPar S k v = gPar T k v := by
  have hN := kR_N h
  obtain ⟨⟨e1, -⟩, -, hs, -⟩ := h
  unfold fDist gDist fHops gHops fPar gPar
  rw [← e1]
  by_cases q : kIsS k ∧ kNode S.1.1 v
  · have q' := (kGood_iff hN).mp q
    rw [kIf_t q, kIf_t q', kIf_t q, kIf_t q', kIf_t q, kIf_t q']
    obtain ⟨z, hz, rfl⟩ := mIn3 (kS_m.mp q.1)
    obtain ⟨j, hj, rfl⟩ := kNode_n hN q.2
    rw [nI_clamp (n := z) (by omega), nI_clamp (n := j) (by omega)]
    obtain ⟨a1, a2, a3⟩ := (hs z hz).2.2.2.1.1 j (by omega)
    exact ⟨a1.symm, a2.symm, a3.symm⟩
  · have q' : ¬ mGood S.1.1 k v := fun z => q ((kGood_iff hN).mpr z)
    rw [kIf_f q, kIf_f q', kIf_f q, kIf_f q', kIf_f q, kIf_f q']
    exact ⟨rfl, rfl, rfl⟩
theorem kR_aff {S : kSt} {T : mT} (k : Int32) (h : kR S T) : fAff S k = gAff T k ∧ fTight S k = gTight T k := by
  obtain ⟨-, -, hs, -⟩ := h
  unfold fAff gAff fTight gTight
  by_cases q : kIsS k
  · have q' := kS_m.mp q
    rw [kIf_t q, kIf_t q', kIf_t q, kIf_t q']
    obtain ⟨z, hz, rfl⟩ := mIn3 q'
    rw [nI_clamp (n := z) (by omega)]
    exact ⟨(hs z hz).2.2.1, (hs z hz).2.2.2.1.2.symm⟩
  · have q' : ¬ mIn k 0 2 := fun z => q (kS_m.mpr z)
    rw [kIf_f q, kIf_f q', kIf_f q, kIf_f q']
    exact ⟨rfl, rfl⟩
theorem kR_count {S : kSt} {T : mT} (w : Int32) (h : kR S T) : fCount S w = gCount T w := by
  obtain ⟨⟨e1, -, -, e2⟩, ⟨e3, ⟨-, -, -, q, h1, h2, h3, -⟩, -⟩, -, ⟨e4, e5⟩, -⟩ := h
  unfold fCount gCount
  have c3 : S.2.1.2.2.1 (kOs S) = kIf (T.2.2.2.2.2.1 = 0) 0 (T.2.2.2.1.2.1 T.2.2.2.1.1) := by
    unfold kOs
    rw [h1, ← e4, ← e3]
    by_cases z : S.2.2.2.2.1.1 = 0
    · rw [kIf_t z, h2 z]; rfl
    · rw [kIf_f z, h3 z]
  rw [e1, e2, e3, c3, e4, e5]
theorem kR_ring {S : kSt} {T : mT} (i : Int32) (h : kR S T) : fRing S i = gRing T i := by
  obtain ⟨-, -, -, -, e1, M, hM, e2, e3⟩ := h
  unfold fRing gRing
  rw [← e1, e2]
  have hm1 : (nI M - 1).toInt = (M : Int) - 1 := pk_sub_toInt (b := 1) (by omega) (by omega)
  have hMi : (nI M).toInt = (M : Int) := nI_toInt (by omega)
  have hn1 : ((-1) : Int32).toInt = -1 := by decide
  have h0 : (0 : Int32).toInt = 0 := rfl
  by_cases q1 : i = (-1)
  · subst q1
    rw [kIf_t rfl, kIf_t (show mIn (-1) (-1) (nI M - 1) from ⟨by decide, fun z => by rw [Int32.lt_iff_toInt_lt, hm1, hn1] at z; omega⟩), kIf_t (by decide)]
  · rw [kIf_f q1]
    have hi : ¬ i.toInt = -1 := fun z => q1 (Int32.toInt_inj.mp (by rw [z, hn1]))
    by_cases q2 : i < 0
    · rw [kIf_f (fun z => z.1 q2), kIf_f (fun z : mIn i (-1) (nI M - 1) => z.1 (by rw [Int32.lt_iff_toInt_lt, h0] at q2; rw [Int32.lt_iff_toInt_lt, hn1]; omega))]
    · have q2' : 0 ≤ i.toInt := by rw [Int32.lt_iff_toInt_lt, h0] at q2; omega
      by_cases q3 : nI M ≤ i
      · have q3' : (M : Int) ≤ i.toInt := by rw [Int32.le_iff_toInt_le, hMi] at q3; exact q3
        rw [kIf_f (fun z => z.2 q3), kIf_f (fun z : mIn i (-1) (nI M - 1) => z.2 (by rw [Int32.lt_iff_toInt_lt, hm1]; omega))]
      · have q3' : i.toInt < (M : Int) := by rw [Int32.le_iff_toInt_le, hMi] at q3; omega
        rw [kIf_t ⟨q2, q3⟩, kIf_t (show mIn i (-1) (nI M - 1) from ⟨fun z => by rw [Int32.lt_iff_toInt_lt, hn1] at z; omega, fun z => by rw [Int32.lt_iff_toInt_lt, hm1] at z; omega⟩), kIf_f q2]
        obtain ⟨j, hj, rfl⟩ := kRingI q2 q3 rfl hM
        rw [nI_clamp (by omega)]
        exact e3 j hj
