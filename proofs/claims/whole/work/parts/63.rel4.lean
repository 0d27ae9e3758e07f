theorem mSet_eq (T : mT) : (mSet T).1 = T.1 ∧ (mSet T).2.1.2.2.2.2 = T.2.1.2.2.2.2 ∧ (mSet T).2.2.2 = T.2.2.2 := by
  obtain ⟨⟨N, xc, sr⟩, ⟨xd, xh, xp, xt, xa⟩, ⟨vd, vh, vp, lst, fl, fh, fp⟩, q, r⟩ := T
  exact ⟨rfl, rfl, rfl⟩
theorem mCnt_eq (T : mT) : mCnt T = (T.1, ((mSet T).2.1.1, (mSet T).2.1.2.1, (mSet T).2.1.2.2.1, (mSet T).2.1.2.2.2.1, kItr (mS5 T.1.1 (mSet T).2.1.1 (mSet T).2.1.2.1 (mSet T).2.1.2.2.1 (mSet T).2.2.1.1 (mSet T).2.2.1.2.1 (mSet T).2.2.1.2.2.1) 3 T.2.1.2.2.2.2), (mSet T).2.2.1, T.2.2.2) := by
  obtain ⟨⟨N, xc, sr⟩, ⟨xd, xh, xp, xt, xa⟩, ⟨vd, vh, vp, lst, fl, fh, fp⟩, q, r⟩ := T
  rfl
theorem kSettle_far {N : Nat} {len : kF} {y : Int32} (hN : N ≤ 24) (hy : kPl N y) {v : Nat} (hv : N ≤ v) : (kSettle N len y).1 v = (-1000000) ∧ (kSettle N len y).2.1 v = (-1000000) ∧ (kSettle N len y).2.2.1 v = (-1000000) := by
  rcases hy with rfl | ⟨s, hs, rfl⟩
  · rw [kSettle_no]; exact ⟨rfl, rfl, rfl⟩
  · rw [kSettle_n hN hs]
    exact ⟨(kRel_far hs hv).1, (kRel_far hs hv).2, (kTgU_ok hN N (Nat.le_refl N)).2.1 v hv⟩
theorem kPl_sr {N : Nat} {sr : kF} (h : ∀ z, z < 3 → kPl N (sr z)) : ∀ q, q < 3 → sr q < 0 ∨ ∃ j, j < N ∧ sr q = nI j := by
  intro q hq
  rcases h q hq with g | g
  · exact Or.inl (by rw [g]; decide)
  · exact Or.inr g
/-- a count: the sources anew, and what has changed -/
theorem kCount_src {S : kSt} {T : mT} (e1 : S.1.1 = T.1.1) (hO : kOkn S.1.1 S.1.2.2) (hx : kXc S.1.2.2 T.1.2.1)
    (hs : ∀ z, z < 3 → (kSel S z).1 = T.1.2.2 z ∧ kPl S.1.1 (T.1.2.2 z) ∧ mRow (kSel S z).2.2.1 T.2.1.1 T.2.1.2.1 T.2.1.2.2.1 T.2.1.2.2.2.1 z ∧ ∃ V0, kEqW (kSel S z).2.2.1 (kSettle S.1.1 V0 (T.1.2.2 z))) :
    ∀ z, z < 3 → rSrc S.1.1 S.1.2.2 (kRec1 S.1.1 S.1.2.2 (kSel S z)) ((mCnt T).1.2.2 z) ((mCnt T).2.1.2.2.2.2 z) (mCnt T).2.1.1 (mCnt T).2.1.2.1 (mCnt T).2.1.2.2.1 (mCnt T).2.1.2.2.2.1 z := by
  have hN := hO.1.1
  have hT := mSet_ok (len := S.1.2.2) T (by rw [← e1]; exact hO.1) hx (by rw [← e1]; exact hO.2) (by rw [← e1]; exact kPl_sr (fun z hz => (hs z hz).2.1))
  intro z hz
  obtain ⟨a1, a2, a3, V0, a4⟩ := hs z hz
  have hrow := hT.1 z hz
  rw [← e1] at hrow
  rw [mCnt_eq]
  unfold kRec1
  dsimp only
  refine ⟨a1, a2, ?_, by rw [a1]; exact hrow, by rw [a1]; exact kEqW_r _⟩
  dsimp only
  rw [mS5_ok 3 z hz, a1, ← e1]
  unfold kDiff
  have h24 : (24 : Nat) = S.1.1 + (24 - S.1.1) := by omega
  rw [h24, kItr_tail 0 (24 - S.1.1) (fun v h1 h2 x => ?_)]
  · refine kItr_c S.1.1 0 (fun v hv x => ?_)
    unfold kDif mA1
    obtain ⟨r1, r2, r3⟩ := hrow.1 v (by omega)
    obtain ⟨o1, o2, o3⟩ := a3.1 v (by omega)
    obtain ⟨w1, w2, w3⟩ := hT.2 (z * 24 + v) (by omega)
    rw [r1, r2, r3, w1, w2, w3, o1, o2, o3]
  · unfold kDif
    obtain ⟨f1, f2, f3⟩ := kSettle_far (len := S.1.2.2) hN a2 h1
    obtain ⟨g1, g2, g3⟩ := kSettle_far (len := V0) hN a2 h1
    obtain ⟨b1, b2, b3⟩ := a4.1 v (by omega)
    exact kIf_t ⟨by rw [f1, b1, g1], by rw [f2, b2, g2], by rw [f3, b3, g3]⟩
theorem kUn_0 {bg en ln len : kF} {sl : Nat} {x : Int32} (h : x = nI 0) : kUn bg en ln sl x.toNatClampNeg len = len := by rw [h]; rfl
theorem kR_V0 {S : kSt} {T : mT} (h : kR S T) (h0 : S.2.2.2.2.1.1 = 0) : kVn S = S.1.2.2 := by
  obtain ⟨-, ⟨-, ⟨-, -, -, q, h1, h2, -⟩, -⟩, -⟩ := h
  unfold kVn
  exact kUn_0 (by rw [h1, h2 h0])
theorem kR_begin {S : kSt} {T : mT} (h : kR S T) : (fBegin S).1 = (gBegin T).1 ∧ kR (fBegin S).2.2 (gBegin T).2 := by
  have h' := h
  obtain ⟨hn, ⟨e3, ⟨hK, hO, hen, q, h1, h2, h3, h4⟩, hch⟩, hs, ⟨e4, e5⟩, hr⟩ := h
  unfold fBegin gBegin
  by_cases z : S.2.2.2.2.1.1 = 0
  · have z' : T.2.2.2.2.2.1 = 0 := by rw [← e4]; exact z
    rw [kIf_t z, kIf_t z']
    refine ⟨rfl, hn, ⟨e3, ⟨hK, hO, fun i hi => ?_, q, h1, fun w => absurd (show (1 : Int32) = 0 from w) (by decide), fun _ => ?_, h4⟩, hch⟩, hs, ⟨rfl, e5⟩, hr⟩
    · have hi : i < S.2.1.1 := hi
      obtain ⟨q2, g1, g2, g3⟩ := hen i hi
      refine ⟨q2, g1, ?_, g3⟩
      dsimp only
      rw [pk_un (by omega)]; exact g2
    · dsimp only
      rw [← e3, pk_us, h2 z]; rfl
  · have z' : ¬ T.2.2.2.2.2.1 = 0 := by rw [← e4]; exact z
    rw [kIf_f z, kIf_f z']
    exact ⟨rfl, kR_th h'⟩
theorem kR_node {S : kSt} {T : mT} (h : kR S T) : (fNode S).1 = (gNode T).1 ∧ kR (fNode S).2.2 (gNode T).2 := by
  have h' := h
  have hN := kR_N h
  have hV0 := kR_V0 h
  obtain ⟨⟨e1, hok, hx, ea⟩, ⟨e3, hhis, hch⟩, hs, ⟨e4, e5⟩, hr⟩ := h
  unfold fNode gNode
  by_cases z : S.2.2.2.2.1.1 = 0
  · have z' : T.2.2.2.2.2.1 = 0 := by rw [← e4]; exact z
    rw [kIf_t z, kIf_t z', ← e1]
    have hV := hV0 z
    by_cases q : nI S.1.1 < 24
    · have hN1 : S.1.1 < 24 := (nI_ltI (a := S.1.1) (b := 24) (by omega) (by decide)).mp q
      have q' : ¬ nI S.1.1 = 24 := fun w => by rw [w] at q; exact absurd q (by decide)
      rw [kIf_t q, kIf_f q']
      refine ⟨rfl, ?_⟩
      have hok2 := kOkn_grow hok hN1
      have hT := mSet_ok (len := S.1.2.2) ((S.1.1 + 1, T.1.2), (mTh T).2) hok2.1 hx hok2.2 (fun q hq => by
        rcases kPl_sr (fun z hz => (hs z hz).2.1) q hq with g | ⟨j, g1, g2⟩
        · exact Or.inl g
        · exact Or.inr ⟨j, by show j < S.1.1 + 1; omega, g2⟩)
      obtain ⟨m1, m2, m3⟩ := mSet_eq ((S.1.1 + 1, T.1.2), (mTh T).2)
      refine ⟨⟨?_, hok2, ?_, ?_⟩, ⟨?_, ?_, ?_⟩, fun z2 hz => ?_, ⟨?_, ?_⟩, ?_⟩
      · rw [m1]
      · rw [m1]; exact hx
      · rw [m1]; exact ea
      · rw [m3]; exact e3
      · rw [m3]; exact hhis
      · exact kChain_grow hN1 _ _ hch
      · obtain ⟨a1, a2, a3, a4, a5⟩ := hs z2 hz
        have hrow := hT.1 z2 hz
        dsimp only at hrow
        have e9 : kEqW (kSel S z2).2.2.1 (kSettle (S.1.1 + 1) S.1.2.2 (T.1.2.2 z2)) := by
          rw [hV] at a5
          have g := kSettle_grow hok hN1 a2
          exact ⟨fun v hv => ⟨(a5.1 v hv).1.trans (g.1 v hv).1, (a5.1 v hv).2.1.trans (g.1 v hv).2.1, (a5.1 v hv).2.2.trans (g.1 v hv).2.2⟩, a5.2.trans g.2⟩
        rw [m1, m2]
        refine ⟨a1, ?_, a3, ?_, ?_⟩
        · rcases a2 with g | ⟨j, g1, g2⟩
          · exact Or.inl g
          · exact Or.inr ⟨j, by show j < S.1.1 + 1; omega, g2⟩
        · exact ⟨fun v hv => ⟨(hrow.1 v hv).1.trans (e9.1 v hv).1.symm, (hrow.1 v hv).2.1.trans (e9.1 v hv).2.1.symm, (hrow.1 v hv).2.2.trans (e9.1 v hv).2.2.symm⟩, hrow.2.trans e9.2.symm⟩
        · show kEqW (kSel S z2).2.2.1 (kSettle (S.1.1 + 1) (kVn S) (T.1.2.2 z2))
          rw [hV]; exact e9
      · rw [m3]; exact e4
      · rw [m3]; exact e5
      · rw [m3]; exact hr
    · have e24 : S.1.1 = 24 := by
        have := mt (nI_ltI (a := S.1.1) (b := 24) (by omega) (by decide)).mpr q
        omega
      have q' : nI S.1.1 = 24 := by rw [e24]; rfl
      rw [kIf_f q, kIf_t q']
      exact ⟨rfl, kR_th h'⟩
  · have z' : ¬ T.2.2.2.2.2.1 = 0 := by rw [← e4]; exact z
    rw [kIf_f z, kIf_f z']
    exact ⟨rfl, kR_th h'⟩
