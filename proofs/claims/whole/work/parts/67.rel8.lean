/-! source -/
theorem kV_iff {N : Nat} {v : Int32} (hN : N ≤ 24) : (v = (-1) ∨ kNode N v) ↔ mIn v (-1) (nI N - 1) := by
  have hm1 : (nI N - 1).toInt = (N : Int) - 1 := pk_sub_toInt (b := 1) (by omega) (by omega)
  have hn1 : ((-1) : Int32).toInt = -1 := by decide
  constructor
  · rintro (rfl | h)
    · exact ⟨by decide, fun z => by rw [Int32.lt_iff_toInt_lt, hm1, hn1] at z; omega⟩
    · obtain ⟨j, hj, rfl⟩ := kNode_n hN h
      have hji : (nI j).toInt = (j : Int) := nI_toInt (by omega)
      exact ⟨fun z => by rw [Int32.lt_iff_toInt_lt, hji, hn1] at z; omega, fun z => by rw [Int32.lt_iff_toInt_lt, hm1, hji] at z; omega⟩
  · intro h
    by_cases q : v < 0
    · refine Or.inl (Int32.toInt_inj.mp ?_)
      have a := h.1
      rw [Int32.lt_iff_toInt_lt, hn1] at a
      rw [Int32.lt_iff_toInt_lt] at q
      have h0 : (0 : Int32).toInt = 0 := rfl
      rw [hn1]
      omega
    · exact Or.inr ((kN_m hN).mpr ⟨q, h.2⟩)
theorem kUpdS_ok (S : kSt) {z : Nat} (hz : z < 3) (x : kSo) : (kUpdS S z x).1 = S.1 ∧ (kUpdS S z x).2.1 = S.2.1 ∧ (kUpdS S z x).2.2.2.1 = S.2.2.2.1 ∧ (kUpdS S z x).2.2.2.2.1 = S.2.2.2.2.1 ∧ kSel (kUpdS S z x) z = x ∧ ∀ y, y < 3 → ¬ y = z → kSel (kUpdS S z x) y = kSel S y := by
  rcases (show z = 0 ∨ z = 1 ∨ z = 2 by omega) with rfl | rfl | rfl
  · refine ⟨rfl, rfl, rfl, rfl, rfl, fun y hy hne => ?_⟩
    rcases (show y = 0 ∨ y = 1 ∨ y = 2 by omega) with rfl | rfl | rfl
    · exact absurd rfl hne
    · rfl
    · rfl
  · refine ⟨rfl, rfl, rfl, rfl, rfl, fun y hy hne => ?_⟩
    rcases (show y = 0 ∨ y = 1 ∨ y = 2 by omega) with rfl | rfl | rfl
    · rfl
    · exact absurd rfl hne
    · rfl
  · refine ⟨rfl, rfl, rfl, rfl, rfl, fun y hy hne => ?_⟩
    rcases (show y = 0 ∨ y = 1 ∨ y = 2 by omega) with rfl | rfl | rfl
    · rfl
    · rfl
    · exact absurd rfl hne
theorem kR_source {S : kSt} {T : mT} (k v : Int32) (h : kR S T) : (fSource S k v).1 = (gSource T k v).1 ∧ kR (fSource S k v).2.2 (gSource T k v).2 := by
  have h' := h
  have hN := kR_N h
  have hV0 := kR_V0 h
  obtain ⟨⟨e1, hok, hx, ea⟩, ⟨e3, hhis, hch⟩, hs, ⟨e4, e5⟩, hr⟩ := h
  unfold fSource gSource
  rw [← e1]
  by_cases q : kIsS k ∧ (v = (-1) ∨ kNode S.1.1 v)
  · have q' : mIn k 0 2 ∧ mIn v (-1) (nI S.1.1 - 1) := ⟨kS_m.mp q.1, (kV_iff hN).mp q.2⟩
    rw [kIf_t q, kIf_t q']
    by_cases z : S.2.2.2.2.1.1 = 0
    · have z' : T.2.2.2.2.2.1 = 0 := by rw [← e4]; exact z
      rw [kIf_t z, kIf_t z']
      obtain ⟨y, hy, rfl⟩ := mIn3 q'.1
      rw [nI_clamp (by omega)]
      refine ⟨(hs y hy).1, ?_⟩
      have hV := hV0 z
      have hpv : kPl S.1.1 v := by
        rcases q.2 with g | g
        · exact Or.inl g
        · exact Or.inr (kNode_n hN g)
      have hpl : ∀ x, x < 3 → kPl S.1.1 (upd T.1.2.2 y v x) := fun x hx => by
        by_cases e : x = y
        · subst e; rw [pk_us]; exact hpv
        · rw [pk_un e]; exact (hs x hx).2.1
      obtain ⟨u1, u2, u3, u4, u5, u6⟩ := kUpdS_ok S hy (v, 0, kSettle S.1.1 S.1.2.2 v, (kSel S y).2.2.2)
      obtain ⟨m1, m2, m3⟩ := mSet_eq ((S.1.1, T.1.2.1, upd T.1.2.2 y v), (T.2.1.1, T.2.1.2.1, T.2.1.2.2.1, T.2.1.2.2.2.1, upd T.2.1.2.2.2.2 y 0), (mTh T).2.2)
      have hT := mSet_ok (len := S.1.2.2) ((S.1.1, T.1.2.1, upd T.1.2.2 y v), (T.2.1.1, T.2.1.2.1, T.2.1.2.2.1, T.2.1.2.2.2.1, upd T.2.1.2.2.2.2 y 0), (mTh T).2.2) hok.1 hx hok.2 (kPl_sr hpl)
      have hVu : kVn (kUpdS S y (v, 0, kSettle S.1.1 S.1.2.2 v, (kSel S y).2.2.2)) = S.1.2.2 := by
        unfold kVn; rw [u1, u2]; exact hV
      refine ⟨⟨?_, ?_, ?_, ?_⟩, ⟨?_, ?_, ?_⟩, fun x hx => ?_, ⟨?_, ?_⟩, ?_⟩
      · rw [m1, u1]
      · rw [u1]; exact hok
      · rw [m1, u1]; exact hx
      · rw [m1, u1]; exact ea
      · rw [m3, u2]; exact e3
      · rw [m3, u2, u4]; exact hhis
      · rw [u1, u2, hVu, ← hV]; exact hch
      · rw [u1, hVu, m1, m2]
        have hrow := hT.1 x hx
        dsimp only at hrow ⊢
        by_cases e : x = y
        · subst e
          rw [u5]
          rw [pk_us] at hrow
          exact ⟨pk_us.symm, by rw [pk_us]; exact hpv, pk_us.symm, hrow, by rw [pk_us]; exact kEqW_r _⟩
        · rw [u6 x hx e]
          obtain ⟨a1, a2, a3, a4, a5⟩ := hs x hx
          rw [hV] at a5
          rw [pk_un e] at hrow
          refine ⟨by rw [pk_un e]; exact a1, by rw [pk_un e]; exact a2, by rw [pk_un e]; exact a3, ?_, by rw [pk_un e]; exact a5⟩
          exact ⟨fun w hw => ⟨(hrow.1 w hw).1.trans (a5.1 w hw).1.symm, (hrow.1 w hw).2.1.trans (a5.1 w hw).2.1.symm, (hrow.1 w hw).2.2.trans (a5.1 w hw).2.2.symm⟩, hrow.2.trans a5.2.symm⟩
      · rw [m3, u4]; exact e4
      · rw [m3, u4]; exact e5
      · rw [m3, u3]; exact hr
    · have z' : ¬ T.2.2.2.2.2.1 = 0 := by rw [← e4]; exact z
      rw [kIf_f z, kIf_f z']
      exact ⟨rfl, kR_th h'⟩
  · have q' : ¬ (mIn k 0 2 ∧ mIn v (-1) (nI S.1.1 - 1)) := fun w => q ⟨kS_m.mpr w.1, (kV_iff hN).mpr w.2⟩
    rw [kIf_f q, kIf_f q']
    exact ⟨rfl, kR_th h'⟩
/-! a change -/
theorem kItr_p {σ : Type} (f : Nat → σ → σ) : ∀ (n : Nat) (s : σ), kItr f (n + 1) s = kItr (fun k => f (k + 1)) n (f 0 s) := by
  intro n
  induction n with
  | zero => intro s; rfl
  | succ n ih => intro s; rw [kItr_s, ih s, kItr_s]
theorem kChain_cg {N O : Nat} {sz bg en ln sz' bg' en' ln' : kF} : ∀ (i : Nat) (len : kF), (∀ j, j < i → sz' ((O + j) % 41) = sz ((O + j) % 41) ∧ (sz ((O + j) % 41)).toNatClampNeg ≤ 30 ∧ ∀ r, r < 30 → bg' ((O + j) % 41 * 30 + r) = bg ((O + j) % 41 * 30 + r) ∧ en' ((O + j) % 41 * 30 + r) = en ((O + j) % 41 * 30 + r) ∧ ln' ((O + j) % 41 * 30 + r) = ln ((O + j) % 41 * 30 + r)) → kChain N O sz bg en ln i len → kChain N O sz' bg' en' ln' i len := by
  intro i
  induction i with
  | zero => intro len _ h; exact h
  | succ i ih =>
    intro len hc h
    refine ⟨h.1, ?_⟩
    obtain ⟨a1, a2, a3⟩ := hc i (by omega)
    rw [a1]
    have e : kUn bg' en' ln' ((O + i) % 41) (sz ((O + i) % 41)).toNatClampNeg len = kUn bg en ln ((O + i) % 41) (sz ((O + i) % 41)).toNatClampNeg len := by
      unfold kUn
      refine kItr_c _ _ (fun k hk x => ?_)
      obtain ⟨b1, b2, b3⟩ := a3 ((sz ((O + i) % 41)).toNatClampNeg - k - 1) (by omega)
      unfold kUl
      rw [b1, b2, b3]
    rw [e]
    exact ih _ (fun j hj => hc j (by omega)) h.2
theorem kUn_push {bg en ln len : kF} {sl q i j : Nat} {x : Int32} (hi : i < 24) (hj : j < 24) (hq : q < 30) : kUn (upd bg (sl * 30 + q) (nI i)) (upd en (sl * 30 + q) (nI j)) (upd ln (sl * 30 + q) (len (i * 24 + j))) sl (q + 1) (upd len (i * 24 + j) x) = kUn bg en ln sl q len := by
  unfold kUn
  rw [kItr_p]
  have e0 : kUl (upd bg (sl * 30 + q) (nI i)) (upd en (sl * 30 + q) (nI j)) (upd ln (sl * 30 + q) (len (i * 24 + j))) sl (q + 1) 0 (upd len (i * 24 + j) x) = len := by
    unfold kUl
    rw [show q + 1 - 0 - 1 = q by omega, pk_us, pk_us, pk_us, nI_clamp (by omega), nI_clamp (by omega)]
    exact k_back len (i * 24 + j) x
  rw [e0]
  refine kItr_c q len (fun k hk y => ?_)
  unfold kUl
  rw [show q + 1 - (k + 1) - 1 = q - k - 1 by omega, pk_un (by omega), pk_un (by omega), pk_un (by omega)]
theorem rEnt_cg {bg en ln qp qe bg' en' ln' qp' qe' : kF} {sl q i : Nat} (h : rEnt bg en ln qp qe sl q i) (hc : ∀ r, r < 30 → bg' (sl * 30 + r) = bg (sl * 30 + r) ∧ en' (sl * 30 + r) = en (sl * 30 + r) ∧ ln' (sl * 30 + r) = ln (sl * 30 + r) ∧ qp' (i * 30 + r) = qp (i * 30 + r) ∧ qe' (i * 30 + r) = qe (i * 30 + r)) : rEnt bg' en' ln' qp' qe' sl q i := by
  refine ⟨h.1, fun r hr => ?_⟩
  obtain ⟨c1, c2, c3, c4, c5⟩ := hc r (by have := h.1; omega)
  rw [c1, c2, c3, c4, c5]
  exact h.2 r hr
