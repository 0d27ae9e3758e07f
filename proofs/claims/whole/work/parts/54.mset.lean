/-! what settle leaves in the reference's rows is what the class tells -/
theorem kItr_id {σ : Type} {f : Nat → σ → σ} : ∀ (n : Nat) (s : σ), (∀ k, k < n → ∀ x, f k x = x) → kItr f n s = s := by
  intro n
  induction n with
  | zero => intro s _; rfl
  | succ n ih => intro s h; rw [kItr_s, ih s (fun k hk => h k (by omega)), h n (by omega)]
noncomputable def mC1 (xc fl : kF) (v u : Nat) (t : Int32) : Int32 := kIf (¬ fl v = 1000000 ∧ ¬ xc (v * 24 + u) = 1000000 ∧ fl v + xc (v * 24 + u) = fl u) (t + 1) t
theorem mS4_ok {xc fl xt : kF} {z v : Nat} : ∀ n, kItr (mS4 xc fl z v) n xt z = kItr (mC1 xc fl v) n (xt z) ∧ ∀ w, ¬ w = z → kItr (mS4 xc fl z v) n xt w = xt w := by
  intro n
  induction n with
  | zero => exact ⟨rfl, fun _ _ => rfl⟩
  | succ n ih =>
    rw [kItr_s, kItr_s, ← ih.1]
    obtain ⟨i1, i2⟩ := ih
    revert i2
    generalize kItr (mS4 xc fl z v) n xt = y
    intro i2
    unfold mS4 mC1
    by_cases q : ¬ fl v = 1000000 ∧ ¬ xc (v * 24 + n) = 1000000 ∧ fl v + xc (v * 24 + n) = fl n
    · rw [kIf_t q, kIf_t q]
      exact ⟨pk_us, fun w hw => by rw [pk_un hw]; exact i2 w hw⟩
    · rw [kIf_f q, kIf_f q]
      exact ⟨pk_us, fun w hw => by rw [pk_un hw]; exact i2 w hw⟩
theorem mS3_ok {N z : Nat} {xc fl fh fp : kF} (hN : N ≤ 24) (x0 : kF × kF × kF × kF) : ∀ n, n ≤ N →
    (∀ v, v < n → (kItr (mS3 N xc fl fh fp z) n x0).1 (z * 24 + v) = kFrom (fl v) ∧ (kItr (mS3 N xc fl fh fp z) n x0).2.1 (z * 24 + v) = fh v ∧ (kItr (mS3 N xc fl fh fp z) n x0).2.2.1 (z * 24 + v) = fp v) ∧
    (∀ k, (∀ v, v < n → ¬ k = z * 24 + v) → (kItr (mS3 N xc fl fh fp z) n x0).1 k = x0.1 k ∧ (kItr (mS3 N xc fl fh fp z) n x0).2.1 k = x0.2.1 k ∧ (kItr (mS3 N xc fl fh fp z) n x0).2.2.1 k = x0.2.2.1 k) ∧
    (kItr (mS3 N xc fl fh fp z) n x0).2.2.2 z = kItr (fun v t => kItr (mC1 xc fl v) N t) n (x0.2.2.2 z) ∧ ∀ w, ¬ w = z → (kItr (mS3 N xc fl fh fp z) n x0).2.2.2 w = x0.2.2.2 w := by
  intro n
  induction n with
  | zero => intro _; exact ⟨fun v hv => absurd hv (Nat.not_lt_zero _), fun _ _ => ⟨rfl, rfl, rfl⟩, rfl, fun _ _ => rfl⟩
  | succ n ih =>
    intro hn
    obtain ⟨i1, i2, i3, i4⟩ := ih (by omega)
    rw [kItr_s, kItr_s, ← i3]
    revert i1 i2 i4
    generalize kItr (mS3 N xc fl fh fp z) n x0 = y
    obtain ⟨xd, xh, xp, xt⟩ := y
    intro i1 i2 i4
    unfold mS3
    dsimp only at i1 i2 i4 ⊢
    obtain ⟨j1, j2⟩ := mS4_ok (xc := xc) (fl := fl) (xt := xt) (z := z) (v := n) N
    refine ⟨fun v hv => ?_, fun k hk => ?_, j1, fun w hw => by rw [j2 w hw]; exact i4 w hw⟩
    · by_cases e : v = n
      · subst e
        exact ⟨pk_us, pk_us, pk_us⟩
      · rw [pk_un (by omega), pk_un (by omega), pk_un (by omega)]
        exact i1 v (by omega)
    · have := hk n (by omega)
      rw [pk_un this, pk_un this, pk_un this]
      exact i2 k (fun v hv => hk v (by omega))
theorem mC_eq {N s : Nat} {len xc : kF} (hL : kLen N len) (hx : kXc len xc) (hs : s < N) (hR : kNR (kG N len)) (f : mFd) (t : Int32) : kItr (fun v t => kItr (mC1 xc (mFind N xc s f).2.1 v) N t) N t = kItr (kCt N len (kRel N len s).1) N t := by
  refine kItr_c N t (fun u hu x => ?_)
  unfold kCt
  by_cases q : (kRel N len s).1 u = (-1000000)
  · rw [kIf_t q]
    refine kItr_id N x (fun v hv y => ?_)
    unfold mC1
    exact kIf_f (fun z => ((kTight hL hx hs hR f hu hv).mpr z).1 q)
  · rw [kIf_f q]
    refine kItr_c N x (fun v hv y => ?_)
    unfold mC1 kCt1
    by_cases g : kTt len (kRel N len s).1 u v
    · rw [kIf_t g, kIf_t ((kTight hL hx hs hR f hu hv).mp ⟨q, g⟩)]
    · rw [kIf_f g, kIf_f (fun z => g ((kTight hL hx hs hR f hu hv).mpr z).2)]
/-- a row of the reference is what the class tells -/
def mRow (L : kLW) (xd xh xp xt : kF) (z : Nat) : Prop := (∀ v, v < 24 → xd (z * 24 + v) = L.1 v ∧ xh (z * 24 + v) = L.2.1 v ∧ xp (z * 24 + v) = L.2.2.1 v) ∧ xt z = L.2.2.2
theorem mS2_ok {N : Nat} {len xc sr : kF} (hL : kLen N len) (hx : kXc len xc) (hR : kNR (kG N len)) (hsr : ∀ q, q < 3 → sr q < 0 ∨ ∃ j, j < N ∧ sr q = nI j) (x0 : mX) (h0 : ∀ k, k < 72 → x0.1 k = (-1000000) ∧ x0.2.1 k = (-1000000) ∧ x0.2.2.1 k = (-1000000)) : ∀ n, n ≤ 3 →
    (∀ z, z < n → mRow (kSettle N len (sr z)) (kItr (mS2 N xc sr) n x0).1 (kItr (mS2 N xc sr) n x0).2.1 (kItr (mS2 N xc sr) n x0).2.2.1 (kItr (mS2 N xc sr) n x0).2.2.2.1 z) ∧ (∀ k, n * 24 ≤ k → k < 72 → (kItr (mS2 N xc sr) n x0).1 k = (-1000000) ∧ (kItr (mS2 N xc sr) n x0).2.1 k = (-1000000) ∧ (kItr (mS2 N xc sr) n x0).2.2.1 k = (-1000000)) := by
  have hN24 := hL.1
  intro n
  induction n with
  | zero => intro _; exact ⟨fun z hz => absurd hz (Nat.not_lt_zero _), fun k _ hk => h0 k hk⟩
  | succ n ih =>
    intro hn
    obtain ⟨i1, i2⟩ := ih (by omega)
    rw [kItr_s]
    revert i1 i2
    generalize kItr (mS2 N xc sr) n x0 = y
    obtain ⟨xd, xh, xp, xt, f⟩ := y
    intro i1 i2
    dsimp only at i1 i2
    unfold mS2
    by_cases q : sr n < 0
    · rw [kIf_t q]
      dsimp only
      refine ⟨fun z hz => ?_, fun k h1 h2 => i2 k (by omega) h2⟩
      by_cases e : z = n
      · subst e
        have es : kSettle N len (sr z) = (kNo, kNo, kNo, 0) := by unfold kSettle; exact kIf_f (fun g => g.1 q)
        rw [es]
        exact ⟨fun v hv => i2 (z * 24 + v) (by omega) (by omega), pk_us⟩
      · have := i1 z (by omega)
        exact ⟨this.1, by rw [pk_un e]; exact this.2⟩
    · rw [kIf_f q]
      obtain ⟨j, hj, ej⟩ := (hsr n (by omega)).resolve_left q
      have en : (sr n).toNatClampNeg = j := by rw [ej]; exact nI_clamp (by omega)
      rw [en]
      unfold mS2f
      dsimp only
      obtain ⟨a1, a2, a3, a4⟩ := mS3_ok (z := n) (xc := xc) (fl := (mFind N xc j f).2.1) (fh := (mFind N xc j f).2.2.1) (fp := (mFind N xc j f).2.2.2) hN24 (xd, xh, xp, upd xt n 0) N (Nat.le_refl N)
      dsimp only at a1 a2 a3 a4
      have es : kSettle N len (sr n) = kSet N len j := by unfold kSettle; rw [kIf_t (by rw [ej]; exact kNode_i hN24 hj), en]
      refine ⟨fun z hz => ?_, fun k h1 h2 => ?_⟩
      · by_cases e : z = n
        · subst e
          rw [es]
          refine ⟨fun v hv => ?_, ?_⟩
          · rcases Nat.lt_or_ge v N with g | g
            · obtain ⟨b1, b2, b3⟩ := a1 v g
              obtain ⟨w1, w2, -⟩ := kWays hL hx hj hR f v g
              have w3 := kParents hL hx hj hR f v g
              exact ⟨by rw [b1]; exact w1.symm, by rw [b2]; exact w2.symm, by rw [b3]; exact w3.symm⟩
            · obtain ⟨b1, b2, b3⟩ := a2 (z * 24 + v) (fun w hw => by omega)
              obtain ⟨c1, c2, c3⟩ := i2 (z * 24 + v) (by omega) (by omega)
              obtain ⟨w1, w2⟩ := kRel_far (len := len) hj g
              have w3 := (kTgU_ok (len := len) (d := (kRel N len j).1) (h := (kRel N len j).2.1) hN24 N (Nat.le_refl N)).2.1 v g
              exact ⟨by rw [b1, c1]; exact w1.symm, by rw [b2, c2]; exact w2.symm, by rw [b3, c3]; exact w3.symm⟩
          · rw [a3, pk_us, mC_eq hL hx hj hR f 0]
            exact (kTgU_ok hN24 N (Nat.le_refl N)).1.symm
        · obtain ⟨b1, b2⟩ := i1 z (by omega)
          refine ⟨fun v hv => ?_, by rw [a4 z e, pk_un e]; exact b2⟩
          obtain ⟨c1, c2, c3⟩ := a2 (z * 24 + v) (fun w hw => by omega)
          rw [c1, c2, c3]
          exact b1 v hv
      · obtain ⟨c1, c2, c3⟩ := a2 k (fun w hw => by omega)
        rw [c1, c2, c3]
        exact i2 k (by omega) h2
theorem mCp_ok (vd vh vp xd xh xp : kF) : (∀ k, k < 72 → (mCp vd vh vp xd xh xp).1 k = xd k ∧ (mCp vd vh vp xd xh xp).2.1 k = xh k ∧ (mCp vd vh vp xd xh xp).2.2.1 k = xp k) ∧ ∀ k, k < 72 → (mCp vd vh vp xd xh xp).2.2.2.1 k = (-1000000) ∧ (mCp vd vh vp xd xh xp).2.2.2.2.1 k = (-1000000) ∧ (mCp vd vh vp xd xh xp).2.2.2.2.2 k = (-1000000) := by
  have key : ∀ n, (∀ k, k < n → (kItr mS1 n (vd, vh, vp, xd, xh, xp)).1 k = xd k ∧ (kItr mS1 n (vd, vh, vp, xd, xh, xp)).2.1 k = xh k ∧ (kItr mS1 n (vd, vh, vp, xd, xh, xp)).2.2.1 k = xp k) ∧ (∀ k, k < n → (kItr mS1 n (vd, vh, vp, xd, xh, xp)).2.2.2.1 k = (-1000000) ∧ (kItr mS1 n (vd, vh, vp, xd, xh, xp)).2.2.2.2.1 k = (-1000000) ∧ (kItr mS1 n (vd, vh, vp, xd, xh, xp)).2.2.2.2.2 k = (-1000000)) ∧ ∀ k, n ≤ k → (kItr mS1 n (vd, vh, vp, xd, xh, xp)).2.2.2.1 k = xd k ∧ (kItr mS1 n (vd, vh, vp, xd, xh, xp)).2.2.2.2.1 k = xh k ∧ (kItr mS1 n (vd, vh, vp, xd, xh, xp)).2.2.2.2.2 k = xp k := by
    intro n
    induction n with
    | zero => exact ⟨fun k hk => absurd hk (Nat.not_lt_zero _), fun k hk => absurd hk (Nat.not_lt_zero _), fun _ _ => ⟨rfl, rfl, rfl⟩⟩
    | succ n ih =>
      obtain ⟨i1, i2, i3⟩ := ih
      rw [kItr_s]
      revert i1 i2 i3
      generalize kItr mS1 n (vd, vh, vp, xd, xh, xp) = y
      obtain ⟨a, b, c, d, e, g⟩ := y
      intro i1 i2 i3
      unfold mS1
      dsimp only at i1 i2 i3 ⊢
      refine ⟨fun k hk => ?_, fun k hk => ?_, fun k hk => ?_⟩
      · by_cases z : k = n
        · subst z; rw [pk_us, pk_us, pk_us]; exact i3 k (Nat.le_refl _)
        · rw [pk_un z, pk_un z, pk_un z]; exact i1 k (by omega)
      · by_cases z : k = n
        · subst z; rw [pk_us, pk_us, pk_us]; exact ⟨rfl, rfl, rfl⟩
        · rw [pk_un z, pk_un z, pk_un z]; exact i2 k (by omega)
      · rw [pk_un (by omega), pk_un (by omega), pk_un (by omega)]; exact i3 k (by omega)
  exact ⟨(key 72).1, (key 72).2.1⟩
/-- settle, row by row -/
theorem mSet_ok {len : kF} (T : mT) (hL : kLen T.1.1 len) (hx : kXc len T.1.2.1) (hR : kNR (kG T.1.1 len)) (hsr : ∀ q, q < 3 → T.1.2.2 q < 0 ∨ ∃ j, j < T.1.1 ∧ T.1.2.2 q = nI j) :
    (∀ z, z < 3 → mRow (kSettle T.1.1 len (T.1.2.2 z)) (mSet T).2.1.1 (mSet T).2.1.2.1 (mSet T).2.1.2.2.1 (mSet T).2.1.2.2.2.1 z) ∧ ∀ k, k < 72 → (mSet T).2.2.1.1 k = T.2.1.1 k ∧ (mSet T).2.2.1.2.1 k = T.2.1.2.1 k ∧ (mSet T).2.2.1.2.2.1 k = T.2.1.2.2.1 k := by
  obtain ⟨⟨N, xc, sr⟩, ⟨xd, xh, xp, xt, xa⟩, ⟨vd, vh, vp, lst, fl, fh, fp⟩, ⟨K, mn, qp, qe⟩, ⟨th, ib, ch, rs, rg⟩⟩ := T
  obtain ⟨c1, c2⟩ := mCp_ok vd vh vp xd xh xp
  exact ⟨(mS2_ok hL hx hR hsr ((mCp vd vh vp xd xh xp).2.2.2.1, (mCp vd vh vp xd xh xp).2.2.2.2.1, (mCp vd vh vp xd xh xp).2.2.2.2.2, xt, (lst, fl, fh, fp)) c2 3 (Nat.le_refl 3)).1, c1⟩
