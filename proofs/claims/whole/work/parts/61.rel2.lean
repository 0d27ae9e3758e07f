theorem kChain_ok {N O : Nat} {sz bg en ln : kF} {i : Nat} {len : kF} (h : kChain N O sz bg en ln i len) : kOkn N len := by
  cases i with
  | zero => exact h
  | succ i => exact h.1
theorem kIter_eq {f g : Nat → Int32 → Int32} {v M : Nat} (hp : ∀ q, q ≤ M → ∃ u, u < 24 ∧ kItr g q (nI v) = nI u) (hs : ∀ k u, u < 24 → f k (nI u) = g k (nI u)) : ∀ q, q ≤ M → kItr f q (nI v) = kItr g q (nI v) := by
  intro q
  induction q with
  | zero => intro _; rfl
  | succ q ih =>
    intro hq
    obtain ⟨u, h1, h2⟩ := hp q (by omega)
    rw [kItr_s, kItr_s, ih (by omega), h2, hs q u h1]
theorem kTold {N : Nat} {V : kF} {x : Int32} {A : kLW} (hV : kOkn N V) (hx : kPl N x) (hA : kEqW A (kSettle N V x)) {v : Nat} (hv : v < 24) : (A.1 v = (-1000000) ∧ A.2.1 v = (-1000000)) ∨ (v < N ∧ ¬ A.1 v = (-1000000) ∧ ∃ M, M < 24 ∧ A.2.1 v = nI M ∧ ∀ q, q ≤ M → ∃ u, u < 24 ∧ kItr (kBack A.2.2.1) q (nI v) = nI u) := by
  obtain ⟨hL, hR⟩ := hV
  have hN24 := hL.1
  rcases hx with rfl | ⟨j, hj, rfl⟩
  · rw [kSettle_no] at hA
    exact Or.inl ⟨(hA.1 v hv).1, (hA.1 v hv).2.1⟩
  · rw [kSettle_n hN24 hj] at hA
    rw [(hA.1 v hv).1, (hA.1 v hv).2.1]
    rcases kSet_node hL hj hR hv with g | ⟨g1, g2, M, g3, g4, g5⟩
    · exact Or.inl g
    · refine Or.inr ⟨g1, g2, M, by omega, g4, fun q hq => ?_⟩
      have hp : ∀ q, q ≤ M → ∃ u, u < 24 ∧ kItr (kBack (kSet N V j).2.2.1) q (nI v) = nI u := fun q hq => by
        obtain ⟨u, h1, h2⟩ := g5 q hq
        exact ⟨u, by omega, h2⟩
      rw [kIter_eq hp (fun k u hu => by rw [kBack_f (nI_pos (by omega)), kBack_f (nI_pos (by omega)), nI_clamp (by omega)]; exact (hA.1 u hu).2.2) q hq]
      exact hp q hq
theorem kWay_eq {N : Nat} {V xd xh xp xt : kF} {x : Int32} {A : kLW} {z v : Nat} (hV : kOkn N V) (hx : kPl N x) (hA : kEqW A (kSettle N V x)) (hr : mRow A xd xh xp xt z) (hv : v < 24) (i : Int32) : kWay A v i = mWay xh xp z v i := by
  obtain ⟨r1, r2, r3⟩ := hr.1 v hv
  unfold kWay mWay
  rw [r2]
  rcases kTold hV hx hA hv with ⟨g1, g2⟩ | ⟨g1, g2, M, g3, g4, g5⟩
  · rw [kIf_t g1, kIf_t g2]
  · have hne : ¬ A.2.1 v = (-1000000) := by
      rw [g4]; intro q
      have h1 := nI_toInt (n := M) (by omega)
      rw [q, kno_int] at h1
      omega
    rw [kIf_f g2, kIf_f hne, g4]
    have hMi : (nI M).toInt = (M : Int) := nI_toInt (by omega)
    have hM1 : (nI M + 1).toInt = (M : Int) + 1 := by rw [nI_1, nI_toInt (by omega)]; omega
    have hn1 : ((-1) : Int32).toInt = -1 := by decide
    have h0 : (0 : Int32).toInt = 0 := rfl
    by_cases q1 : i = (-1)
    · subst q1
      rw [kIf_t rfl, kIf_t (show mIn (-1) (-1) (nI M) from ⟨by decide, fun w => by rw [Int32.lt_iff_toInt_lt, hMi, hn1] at w; omega⟩), kIf_t (by decide)]
    · rw [kIf_f q1]
      have hi : ¬ i.toInt = -1 := fun w => q1 (Int32.toInt_inj.mp (by rw [w, hn1]))
      by_cases q2 : i < 0
      · rw [kIf_f (fun w => w.1 q2), kIf_f (fun w : mIn i (-1) (nI M) => w.1 (by rw [Int32.lt_iff_toInt_lt, h0] at q2; rw [Int32.lt_iff_toInt_lt, hn1]; omega))]
      · have q2' : 0 ≤ i.toInt := by rw [Int32.lt_iff_toInt_lt, h0] at q2; omega
        by_cases q3 : nI M + 1 ≤ i
        · have q3' : (M : Int) + 1 ≤ i.toInt := by rw [Int32.le_iff_toInt_le, hM1] at q3; exact q3
          rw [kIf_f (fun w => w.2 q3), kIf_f (fun w : mIn i (-1) (nI M) => w.2 (by rw [Int32.lt_iff_toInt_lt, hMi]; omega))]
        · have q3' : i.toInt < (M : Int) + 1 := by rw [Int32.le_iff_toInt_le, hM1] at q3; omega
          rw [kIf_t ⟨q2, q3⟩, kIf_t (show mIn i (-1) (nI M) from ⟨fun w => by rw [Int32.lt_iff_toInt_lt, hn1] at w; omega, fun w => by rw [Int32.lt_iff_toInt_lt, hMi] at w; omega⟩), kIf_f q2]
          exact (kIter_eq g5 (fun k u hu => by unfold mWb; rw [kBack_f (nI_pos (by omega)), nI_clamp (by omega)]; exact (hr.1 u hu).2.2) _ (by rw [nI_clamp (by omega)]; omega)).symm
theorem kR_V {S : kSt} {T : mT} (h : kR S T) : kOkn S.1.1 (kVn S) := kChain_ok h.2.1.2.2
theorem kR_way {S : kSt} {T : mT} (k v i : Int32) (h : kR S T) : fWay S k v i = gWay T k v i := by
  have hN := kR_N h
  have hV := kR_V h
  obtain ⟨⟨e1, -⟩, -, hs, -⟩ := h
  unfold fWay gWay
  rw [← e1]
  by_cases q : kIsS k ∧ kNode S.1.1 v
  · have q' := (kGood_iff hN).mp q
    rw [kIf_t q, kIf_t q']
    obtain ⟨z, hz, rfl⟩ := mIn3 (kS_m.mp q.1)
    obtain ⟨j, hj, rfl⟩ := kNode_n hN q.2
    rw [nI_clamp (n := z) (by omega), nI_clamp (n := j) (by omega)]
    obtain ⟨a1, a2, a3, a4, a5⟩ := hs z hz
    exact kWay_eq hV a2 a5 a4 (by omega) i
  · rw [kIf_f q, kIf_f (fun z => q ((kGood_iff hN).mpr z))]
-- the preconditions
theorem kR_kOK {S : kSt} {T : mT} (h : kR S T) : kOK S := by
  have hN := kR_N h
  have hV := kR_V h
  obtain ⟨⟨e1, ⟨hL, hn⟩, hx, -⟩, ⟨e3, ⟨hK, hO, hen, q, h1, h2, h3, h4⟩, hch⟩, hs, -, -, M, hM, e2, -⟩ := h
  refine ⟨⟨hN, hK, hO⟩, ⟨q, h4.1, h1, h2⟩, fun j hj => kLwOk_of hL hn (Or.inr ⟨j, hj, rfl⟩) (kEqW_r _), fun hK0 => ?_, ?_, ?_, ?_, M, hM, e2⟩
  · obtain ⟨q2, g1, g2, g3, g4⟩ := hen (S.2.1.1 - 1) (by omega)
    refine ⟨q2, g3, g1, fun r hr => ?_⟩
    obtain ⟨a, b, k1, k2, -, k3, k4, -, -⟩ := g4 r hr
    exact ⟨a, b, k1, k2, k3, k4⟩
  · obtain ⟨-, a2, -, -, a5⟩ := hs 0 (by omega)
    exact kLwOk_of hV.1 hV.2 a2 a5
  · obtain ⟨-, a2, -, -, a5⟩ := hs 1 (by omega)
    exact kLwOk_of hV.1 hV.2 a2 a5
  · obtain ⟨-, a2, -, -, a5⟩ := hs 2 (by omega)
    exact kLwOk_of hV.1 hV.2 a2 a5
-- the net without an arc
theorem kTk_len {N : Nat} {len : kF} (hL : kLen N len) (k : Nat) : kLen N (upd len k (-1000000)) := by
  refine ⟨hL.1, fun u v hu hv => ?_⟩
  by_cases z : u * 24 + v = k
  · rw [z, pk_us]; exact Or.inl rfl
  · rw [pk_un z]; exact hL.2 u v hu hv
theorem kG_set {N : Nat} {len : kF} {a b : Nat} (ha : a < N) (hb : b < N) (hN : N ≤ 24) (x : Int32) : kG N (upd len (a * 24 + b) x) = kSetG (kG N len) a b (kIf (x = (-1000000)) none (some x.toInt)) := by
  funext u v
  unfold kSetG
  by_cases z : u = a ∧ v = b
  · obtain ⟨rfl, rfl⟩ := z
    rw [if_pos ⟨rfl, rfl⟩]
    unfold kG
    rw [pk_us]
    by_cases q : x = (-1000000)
    · rw [kIf_t q, kIf_f (fun g => g.2.2 q)]
    · rw [kIf_f q, kIf_t ⟨ha, hb, q⟩]
  · rw [if_neg z]
    unfold kG
    by_cases g : u < N ∧ v < N
    · have : ¬ u * 24 + v = a * 24 + b := by omega
      rw [pk_un this]
    · rw [kIf_f (fun w => g ⟨w.1, w.2.1⟩), kIf_f (fun w => g ⟨w.1, w.2.1⟩)]
theorem kXc_upd {len xc : kF} (hx : kXc len xc) {a b : Nat} (hb : b < 24) (x : Int32) : kXc (upd len (a * 24 + b) x) (upd xc (a * 24 + b) (kTo x)) := by
  intro u v hu hv
  by_cases z : u * 24 + v = a * 24 + b
  · rw [z, pk_us, pk_us]
  · rw [pk_un z, pk_un z]; exact hx u v hu hv
theorem kTk_nr {N : Nat} {len : kF} {a b : Nat} (ha : a < N) (hb : b < N) (hN : N ≤ 24) (hR : kNR (kG N len)) : kNR (kG N (upd len (a * 24 + b) (-1000000))) := by
  rw [kG_set ha hb hN, kIf_t rfl]
  exact kNR_take hR
theorem kTo_n1 : kTo (-1000000) = 1000000 := kIf_t rfl
/-- the reference's ways back, and its ring -/
theorem mRok_of {N i j : Nat} {len xc rg : kF} (hL : kLen N len) (hR : kNR (kG N len)) (hx : kXc len xc) (hi : i < N) (hj : j < N) (f : mFd) : mRok (mFind N (upd xc (i * 24 + j) 1000000) j f) rg i ((mFind N (upd xc (i * 24 + j) 1000000) j f).2.2.1 i).toNatClampNeg := by
  have hN24 := hL.1
  have hL2 := kTk_len hL (i * 24 + j)
  have hR2 := kTk_nr hi hj hN24 hR
  have hx2 := kXc_upd hx (a := i) (b := j) (by omega) (-1000000)
  rw [kTo_n1] at hx2
  intro hne
  obtain ⟨w1, w2, w3⟩ := kWays hL2 hx2 hj hR2 f i hi
  have hd : ¬ (kRel N (upd len (i * 24 + j) (-1000000)) j).1 i = (-1000000) := fun z => hne (w3.mp z)
  rcases kRel_ok hL2 hj hR2 i hi with ⟨a1, -⟩ | ⟨-, M, a2, a3, -⟩
  · exact absurd a1 hd
  · have e : (mFind N (upd xc (i * 24 + j) 1000000) j f).2.2.1 i = nI M := by rw [← w2]; exact a3
    rw [e, nI_clamp (by omega)]
    refine ⟨rfl, by omega, fun q hq => ?_⟩
    have hp : ∀ q, q ≤ M → ∃ u, u < N ∧ kItr (kBack (kSet N (upd len (i * 24 + j) (-1000000)) j).2.2.1) q (nI i) = nI u := fun q hq => by
      obtain ⟨u, h1, h2, -, -⟩ := kPath hL2 hj hR2 hi hd a3 (by omega) q hq
      exact ⟨u, h1, h2⟩
    have key : ∀ q, q ≤ M → (kItr (mRgB (mFind N (upd xc (i * 24 + j) 1000000) j f).2.2.2 M) q (rg, nI i)).2 = kItr (kBack (kSet N (upd len (i * 24 + j) (-1000000)) j).2.2.1) q (nI i) := by
      intro q
      induction q with
      | zero => intro _; rfl
      | succ q ih =>
        intro hq
        obtain ⟨u, h1, h2⟩ := hp q (by omega)
        rw [kItr_s, kItr_s]
        unfold mRgB
        dsimp only
        have ih := ih (by omega)
        unfold mRgB at ih
        rw [ih, h2, kBack_f (nI_pos (by omega)), nI_clamp (by omega)]
        exact (kParents hL2 hx2 hj hR2 f u h1).symm
    rw [key q hq]
    obtain ⟨u, h1, h2⟩ := hp q hq
    exact ⟨u, by omega, h2⟩
theorem kR_mOK {S : kSt} {T : mT} (h : kR S T) : mOK T := by
  have hN := kR_N h
  have hV := kR_V h
  obtain ⟨⟨e1, ⟨hL, hn⟩, hx, -⟩, ⟨e3, ⟨hK, hO, hen, q, h1, h2, h3, h4⟩, hch⟩, hs, ⟨e4, -⟩, e5, M, hM, e2, -⟩ := h
  refine ⟨by rw [← e1]; exact hN, fun z hz => ?_, by rw [← e3]; exact hK, fun hib => ⟨q, h4.1, by rw [← e3]; exact h3 (by rw [e4]; exact hib)⟩, fun i j hi hj _ => ?_, fun hK0 => ?_, fun z v hz hv => ?_, M, hM, by rw [← e5]; exact e2⟩
  · rw [← e1]
    rcases (hs z hz).2.1 with g | g
    · exact Or.inl (by rw [g]; decide)
    · exact Or.inr g
  · unfold mFb
    rw [← e1] at hi hj ⊢
    exact mRok_of hL hn hx hi hj _
  · rw [← e3] at hK0 ⊢
    obtain ⟨q2, g1, g2, g3, g4⟩ := hen (S.2.1.1 - 1) (by omega)
    refine ⟨q2, g3, g2, fun r hr => ?_⟩
    obtain ⟨a, b, k1, k2, -, k3, k4, k5, -⟩ := g4 r hr
    exact ⟨a * 24 + b, by omega, k5⟩
  · rw [← e1] at hv
    obtain ⟨a1, a2, a3, a4, a5⟩ := hs z hz
    rw [(a4.1 v (by omega)).2.1]
    rcases kTold hV a2 a5 (v := v) (by omega) with ⟨g1, g2⟩ | ⟨g1, g2, M, g3, g4, g5⟩
    · exact Or.inl g2
    · refine Or.inr ⟨M, g3, g4, fun k hk => ?_⟩
      rw [kIter_eq g5 (fun k u hu => by unfold mWb; rw [kBack_f (nI_pos (by omega)), nI_clamp (by omega)]; exact (a4.1 u hu).2.2) k hk]
      exact g5 k hk
