theorem kFb_ok {N i j : Nat} {len xc : kF} (h : kOkn N len) (hx : kXc len xc) (hi : i < N) (hj : j < N) (f : mFd) : ∀ v, v < N → (kSet N len j).1 v = kFrom ((mFind N (upd xc (i * 24 + j) 1000000) j f).2.1 v) ∧ (kSet N len j).2.1 v = (mFind N (upd xc (i * 24 + j) 1000000) j f).2.2.1 v ∧ (kSet N len j).2.2.1 v = (mFind N (upd xc (i * 24 + j) 1000000) j f).2.2.2 v ∧ ((kSet N len j).1 v = (-1000000) ↔ (mFind N (upd xc (i * 24 + j) 1000000) j f).2.1 v = 1000000) := by
  have hN := h.1.1
  have hL2 := kTk_len h.1 (i * 24 + j)
  have hR2 := kTk_nr hi hj hN h.2
  have hx2 := kXc_upd hx (a := i) (b := j) (by omega) (-1000000)
  rw [kTo_n1] at hx2
  intro v hv
  obtain ⟨w1, w2, w3⟩ := kWays hL2 hx2 hj hR2 f v hv
  obtain ⟨s1, s2⟩ := kRel_src h hi hj hv
  refine ⟨?_, ?_, ?_, ?_⟩
  · show (kRel N len j).1 v = _
    rw [s1]; exact w1
  · show (kRel N len j).2.1 v = _
    rw [s2]; exact w2
  · rw [kPar_src h hi hj hv]; exact kParents hL2 hx2 hj hR2 f v hv
  · show (kRel N len j).1 v = _ ↔ _
    rw [s1]; exact w3
theorem kRgB_ok {W : kLW} {i M : Nat} (rg : kF) : ∀ n k, k < n → kItr (kRgB W i M) n rg k = kItr (kBack W.2.2.1) (M - k) (nI i) := by
  intro n
  induction n with
  | zero => intro k hk; exact absurd hk (Nat.not_lt_zero _)
  | succ n ih =>
    intro k hk
    rw [kItr_s]
    revert ih
    generalize kItr (kRgB W i M) n rg = r
    intro ih
    unfold kRgB
    by_cases z : k = n
    · subst z; exact pk_us
    · rw [pk_un z]; exact ih k (by omega)
theorem mRgB_ok {fp p : kF} {i M : Nat} (rg : kF) (hp : ∀ q, q ≤ M → ∃ u, u < 24 ∧ kItr (kBack p) q (nI i) = nI u ∧ fp u = p u) : ∀ n, n ≤ M + 1 → (n ≤ M → (kItr (mRgB fp M) n (rg, nI i)).2 = kItr (kBack p) n (nI i)) ∧ ∀ k, k < n → (kItr (mRgB fp M) n (rg, nI i)).1 (M - k) = kItr (kBack p) k (nI i) := by
  intro n
  induction n with
  | zero => intro _; exact ⟨fun _ => rfl, fun k hk => absurd hk (Nat.not_lt_zero _)⟩
  | succ n ih =>
    intro hn
    obtain ⟨i1, i2⟩ := ih (by omega)
    have i1 := i1 (by omega)
    obtain ⟨u, u1, u2, u3⟩ := hp n (by omega)
    rw [kItr_s, kItr_s]
    revert i1 i2
    generalize kItr (mRgB fp M) n (rg, nI i) = st
    obtain ⟨r, y⟩ := st
    intro i2 i1
    have i1 : y = kItr (kBack p) n (nI i) := i1
    unfold mRgB
    dsimp only at i2 ⊢
    refine ⟨fun _ => ?_, fun k hk => ?_⟩
    · rw [i1, u2, kBack_f (nI_pos (by omega)), nI_clamp (by omega)]; exact u3
    · by_cases z : k = n
      · subst z; rw [pk_us]; exact i1
      · rw [pk_un (by omega)]; exact i2 k (by omega)
theorem kLen_iff {x : Int32} : kLenOk x ↔ mIn x (-1000) 1000 := by
  unfold kLenOk mIn
  rw [Int32.not_lt (a := 1000) (b := x)]
theorem kR_put {S : kSt} {T : mT} (a b x : Int32) (h : kR S T) : (fPut S a b x).1 = (gPut T a b x).1 ∧ kR (fPut S a b x).2.2 (gPut T a b x).2 := by
  have h' := h
  have hN := kR_N h
  have hfi := kFull_iff h
  obtain ⟨⟨e1, hok, hx, ea⟩, hhis, hs, h45, hr⟩ := h
  unfold fPut gPut
  rw [← e1]
  by_cases q : kTwo S.1.1 a b ∧ kLenOk x
  · have q' : mTwo S.1.1 a b ∧ mIn x (-1000) 1000 := ⟨(kT_m hN).mp q.1, kLen_iff.mp q.2⟩
    rw [kIf_t q, kIf_t q']
    by_cases f : kFull S.2.2.2.2.1.1 (S.2.1.2.2.1 (kOs S))
    · rw [kIf_t f, kIf_t (hfi.mp f)]
      exact ⟨rfl, kR_th h'⟩
    · have f' : ¬ mFull T := fun w => f (hfi.mpr w)
      rw [kIf_f f, kIf_f f']
      obtain ⟨i, hi, rfl⟩ := kNode_n hN q.1.1
      obtain ⟨j, hj, rfl⟩ := kNode_n hN q.1.2.1
      have hij : ¬ i = j := fun w => q.1.2.2 (by rw [w])
      rw [nI_clamp (n := i) (by omega), nI_clamp (n := j) (by omega), kSettle_n hN hj]
      have hF : ∀ v, v < S.1.1 → (kSet S.1.1 S.1.2.2 j).1 v = kFrom ((mFb T i j).2.1 v) ∧ (kSet S.1.1 S.1.2.2 j).2.1 v = (mFb T i j).2.2.1 v ∧ (kSet S.1.1 S.1.2.2 j).2.2.1 v = (mFb T i j).2.2.2 v ∧ ((kSet S.1.1 S.1.2.2 j).1 v = (-1000000) ↔ (mFb T i j).2.1 v = 1000000) := by
        unfold mFb; rw [← e1]; exact kFb_ok hok hx hi hj _
      obtain ⟨w1, w2, w3, w4⟩ := hF i hi
      have hx1 : -1000 ≤ x.toInt ∧ x.toInt ≤ 1000 := by
        have c1 := q.2.1
        have c2 := q.2.2
        rw [Int32.lt_iff_toInt_lt, show ((-1000) : Int32).toInt = -1000 by decide] at c1
        rw [Int32.le_iff_toInt_le, show (1000 : Int32).toInt = 1000 by decide] at c2
        omega
      have hfall : kFall (kSet S.1.1 S.1.2.2 j) i x ↔ mFall (mFb T i j) i x := by
        unfold kFall mFall
        by_cases z : (kSet S.1.1 S.1.2.2 j).1 i = (-1000000)
        · exact ⟨fun w => absurd z w.1, fun w => absurd (w4.mp z) w.1⟩
        · have z' : ¬ (mFb T i j).2.1 i = 1000000 := fun w => z (w4.mpr w)
          have ew : (kSet S.1.1 S.1.2.2 j).1 i = (mFb T i j).2.1 i := by rw [w1]; unfold kFrom; exact kIf_f z'
          rw [ew]
          exact ⟨fun w => ⟨z', w.2⟩, fun w => ⟨by rw [← ew]; exact z, w.2⟩⟩
      by_cases y : kFall (kSet S.1.1 S.1.2.2 j) i x
      · rw [kIf_t y, kIf_t (hfall.mp y), ← w2]
        refine ⟨rfl, ⟨e1, hok, hx, ea⟩, hhis, hs, h45, rfl, ?_⟩
        rcases kRel_ok hok.1 hj hok.2 i hi with ⟨a1, -⟩ | ⟨a1, M, a2, a3, -⟩
        · exact absurd a1 y.1
        · have eM : ((kSet S.1.1 S.1.2.2 j).2.1 i).toNatClampNeg = M := by
            show ((kRel S.1.1 S.1.2.2 j).2.1 i).toNatClampNeg = M
            rw [a3]; exact nI_clamp (by omega)
          refine ⟨M + 1, by omega, by dsimp only; rw [eM], fun k hk => ?_⟩
          dsimp only
          rw [eM, kRgB_ok _ (M + 1) k hk]
          have hp : ∀ q, q ≤ M → ∃ u, u < 24 ∧ kItr (kBack (kSet S.1.1 S.1.2.2 j).2.2.1) q (nI i) = nI u ∧ (mFb T i j).2.2.2 u = (kSet S.1.1 S.1.2.2 j).2.2.1 u := fun q hq => by
            obtain ⟨u, u1, u2, -, -⟩ := kPath hok.1 hj hok.2 hi a1 a3 (by omega) q hq
            exact ⟨u, by omega, u2, (hF u u1).2.2.1.symm⟩
          have := (mRgB_ok (fp := (mFb T i j).2.2.2) T.2.2.2.2.2.2.2.2 hp (M + 1) (Nat.le_refl _)).2 (M - k) (by omega)
          rw [show M - (M - k) = k by omega] at this
          exact this.symm
      · have y' : ¬ mFall (mFb T i j) i x := fun w => y (hfall.mpr w)
        rw [kIf_f y, kIf_f y']
        have hok' : kOkn S.1.1 (upd S.1.2.2 (i * 24 + j) x) := by
          refine ⟨⟨hN, fun u v hu hv => ?_⟩, ?_⟩
          · by_cases z : u * 24 + v = i * 24 + j
            · have e2 : u = i := by omega
              have e3 : v = j := by omega
              subst e2 e3
              rw [pk_us]; exact Or.inr ⟨hi, hj, hij, hx1.1, hx1.2⟩
            · rw [pk_un z]; exact hok.1.2 u v hu hv
          · rw [kG_set hi hj hN, kIf_f (fun w => by rw [w, kno_int] at hx1; omega)]
            refine kNR_put (kNR_take hok.2) (fun k z wk => ?_)
            have wk2 := kWk_mono kSet_sub _ _ _ wk
            rcases kRel_ok hok.1 hj hok.2 i hi with ⟨-, -, a3⟩ | ⟨a1, M, a2, a3, a4⟩
            · exact absurd wk2 (a3 _ _)
            · have hab := kRel_abs hok.1 hj hok.2 hi a1
              have := a4.2 _ _ wk2
              have hn : ¬ ((kRel S.1.1 S.1.2.2 j).1 i + x) < 0 := fun w => y ⟨a1, w⟩
              rw [Int32.lt_iff_toInt_lt, kadd (by omega) (by omega), show (0 : Int32).toInt = 0 from rfl] at hn
              omega
        have hc := kR_chg (S := (S.1, S.2.1, kSet S.1.1 S.1.2.2 j, S.2.2.2)) (T := mTh (mSetF T (mFb T i j))) (i := i) (j := j) (x := x) ⟨⟨e1, hok, hx, ea⟩, hhis, hs, h45, hr⟩ hi hj hx1.2 hok' f
        have exx : kTo x = x := kIf_f (fun w => by rw [w, kno_int] at hx1; omega)
        rw [exx] at hc
        refine ⟨?_, hc.2⟩
        rw [hc.1]
        dsimp only
        rw [hx i j (by omega) (by omega)]
        exact (kTo_back hok.1 (by omega) (by omega)).symm
  · have q' : ¬ (mTwo S.1.1 a b ∧ mIn x (-1000) 1000) := fun w => q ⟨(kT_m hN).mpr w.1, kLen_iff.mpr w.2⟩
    rw [kIf_f q, kIf_f q']
    exact ⟨rfl, kR_th h'⟩
