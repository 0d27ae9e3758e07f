/-! take, put -/
theorem kFull_iff {S : kSt} {T : mT} (h : kR S T) : kFull S.2.2.2.2.1.1 (S.2.1.2.2.1 (kOs S)) ↔ mFull T := by
  obtain ⟨-, ⟨e3, ⟨-, -, -, q, h1, h2, h3, h4⟩, -⟩, -, ⟨e4, -⟩, -⟩ := h
  have hq := h4.1
  unfold kFull mFull kOs
  rw [h1, ← e4, ← e3]
  constructor
  · intro w
    refine ⟨w.1, ?_⟩
    rw [h3 w.1]
    rcases Nat.lt_or_ge q 30 with y | y
    · exact absurd (nI_lt (a := q) (b := 30) y (by decide)) w.2
    · rw [show q = 30 by omega]; rfl
  · intro w
    refine ⟨w.1, ?_⟩
    have := w.2
    rw [h3 w.1] at this
    rw [this]; decide
theorem kR_take {S : kSt} {T : mT} (a b : Int32) (h : kR S T) : (fTake S a b).1 = (gTake T a b).1 ∧ kR (fTake S a b).2.2 (gTake T a b).2 := by
  have h' := h
  have hN := kR_N h
  have hfi := kFull_iff h
  obtain ⟨⟨e1, hok, hx, -⟩, -⟩ := h
  unfold fTake gTake
  rw [← e1]
  by_cases q : kTwo S.1.1 a b
  · rw [kIf_t q, kIf_t ((kT_m hN).mp q)]
    by_cases f : kFull S.2.2.2.2.1.1 (S.2.1.2.2.1 (kOs S))
    · rw [kIf_t f, kIf_t (hfi.mp f)]
      exact ⟨rfl, kR_th h'⟩
    · have f' : ¬ mFull T := fun w => f (hfi.mpr w)
      rw [kIf_f f, kIf_f f']
      obtain ⟨i, hi, rfl⟩ := kNode_n hN q.1
      obtain ⟨j, hj, rfl⟩ := kNode_n hN q.2.1
      rw [nI_clamp (n := i) (by omega), nI_clamp (n := j) (by omega)]
      have hxi := hx i j (by omega) (by omega)
      by_cases z : S.1.2.2 (i * 24 + j) = (-1000000)
      · have z' : T.1.2.1 (i * 24 + j) = 1000000 := by rw [hxi]; exact (kTo_no hok.1 (by omega) (by omega)).mpr z
        rw [kIf_t z, kIf_t z']
        exact ⟨rfl, kR_th h'⟩
      · have z' : ¬ T.1.2.1 (i * 24 + j) = 1000000 := by rw [hxi]; exact fun w => z ((kTo_no hok.1 (by omega) (by omega)).mp w)
        rw [kIf_f z, kIf_f z']
        have hc := kR_chg (x := (-1000000)) (kR_th h') hi hj (by decide) ⟨kTk_len hok.1 _, kTk_nr hi hj hN hok.2⟩ f
        rw [kTo_n1] at hc
        refine ⟨?_, hc.2⟩
        rw [hc.1]
        dsimp only
        rw [hxi]; exact (kTo_some z).symm
  · have q' : ¬ mTwo S.1.1 a b := fun w => q ((kT_m hN).mpr w)
    rw [kIf_f q, kIf_f q']
    exact ⟨rfl, kR_th h'⟩
/-- the ways from j are the same without an arc to j -/
theorem kRel_src {N i j : Nat} {len : kF} (h : kOkn N len) (hi : i < N) (hj : j < N) {v : Nat} (hv : v < N) : (kRel N len j).1 v = (kRel N (upd len (i * 24 + j) (-1000000)) j).1 v ∧ (kRel N len j).2.1 v = (kRel N (upd len (i * 24 + j) (-1000000)) j).2.1 v := by
  obtain ⟨hL, hR⟩ := h
  have hN := hL.1
  have hL2 := kTk_len hL (i * 24 + j)
  have hR2 := kTk_nr hi hj hN hR
  have hG : kG N (upd len (i * 24 + j) (-1000000)) = kSetG (kG N len) i j none := by rw [kG_set hi hj hN, kIf_t rfl]
  have h2 := kRel_ok hL2 hj hR2 v hv
  rw [hG] at h2
  rcases kRel_ok hL hj hR v hv with ⟨a1, a2, a3⟩ | ⟨a1, k, a2, a3, a4⟩
  · rcases h2 with ⟨b1, b2, b3⟩ | ⟨b1, k2, b2, b3, b4⟩
    · exact ⟨by rw [a1, b1], by rw [a2, b2]⟩
    · exact absurd ((kLst_src hR).mpr b4).1 (a3 _ _)
  · rcases h2 with ⟨b1, b2, b3⟩ | ⟨b1, k2, b2, b3, b4⟩
    · exact absurd ((kLst_src (a := i) hR).mp a4).1 (b3 _ _)
    · obtain ⟨c1, c2⟩ := kLst_u a4 ((kLst_src hR).mpr b4)
      exact ⟨Int32.toInt_inj.mp c1, by rw [a3, b3, c2]⟩
theorem kSet_s0 {N s : Nat} {len : kF} (h : kOkn N len) (hs : s < N) : (kSet N len s).2.2.1 s = (-1000000) := by
  obtain ⟨hL, hR⟩ := h
  have hN24 := hL.1
  have h1 : kFst (kPq len (kRel N len s).1 (kRel N len s).2.1 s) N ((kSet N len s).2.2.1 s) := (kTgU_ok hN24 N (Nat.le_refl N)).2.2 s hs
  rcases h1 with ⟨a1, -⟩ | ⟨u, a1, a2, -, -⟩
  · exact a1
  · exfalso
    have e0 : (kRel N len s).2.1 s = nI 0 := by
      rcases kRel_ok hL hs hR s hs with ⟨-, -, b3⟩ | ⟨-, k, b2, b3, b4⟩
      · exact absurd (kWk_0 _ s) (b3 0 0)
      · have := b4.2 0 0 (kWk_0 _ s)
        have h2 := hR s k _ b4.1
        have : k = 0 := by omega
        rw [b3, this]
    rcases kRel_ok hL hs hR u a1 with ⟨b1, -⟩ | ⟨-, k, b2, b3, b4⟩
    · exact a2.1 b1
    · have := a2.2.2.2
      rw [b3, e0, nI_1] at this
      have := (nI_eq (a := k + 1) (b := 0) (by omega) (by omega)).mp this
      omega
theorem kPar_src {N i j : Nat} {len : kF} (h : kOkn N len) (hi : i < N) (hj : j < N) {v : Nat} (hv : v < N) : (kSet N len j).2.2.1 v = (kSet N (upd len (i * 24 + j) (-1000000)) j).2.2.1 v := by
  have hN := h.1.1
  have h2 : kOkn N (upd len (i * 24 + j) (-1000000)) := ⟨kTk_len h.1 _, kTk_nr hi hj hN h.2⟩
  by_cases z : v = j
  · subst z; rw [kSet_s0 h hj, kSet_s0 h2 hj]
  · have a : kFst (kPq len (kRel N len j).1 (kRel N len j).2.1 v) N ((kSet N len j).2.2.1 v) := (kTgU_ok hN N (Nat.le_refl N)).2.2 v hv
    have b : kFst (kPq (upd len (i * 24 + j) (-1000000)) (kRel N (upd len (i * 24 + j) (-1000000)) j).1 (kRel N (upd len (i * 24 + j) (-1000000)) j).2.1 v) N ((kSet N (upd len (i * 24 + j) (-1000000)) j).2.2.1 v) := (kTgU_ok hN N (Nat.le_refl N)).2.2 v hv
    refine kFst_u (fun u hu => ?_) a b
    unfold kPq
    have hne : ¬ u * 24 + v = i * 24 + j := by omega
    rw [pk_un hne, (kRel_src h hi hj hu).1, (kRel_src h hi hj hu).2, (kRel_src h hi hj hv).1, (kRel_src h hi hj hv).2]
