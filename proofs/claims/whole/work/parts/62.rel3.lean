/-! a node more; what a count does -/
theorem kG_grow {N : Nat} {len : kF} (hL : kLen N len) (hN : N < 24) : kG (N + 1) len = kG N len := by
  funext u v
  unfold kG
  by_cases q : u < N + 1 ∧ v < N + 1 ∧ ¬ len (u * 24 + v) = (-1000000)
  · rw [kIf_t q]
    rcases hL.2 u v (by omega) (by omega) with g | g
    · exact absurd g q.2.2
    · rw [kIf_t ⟨g.1, g.2.1, q.2.2⟩]
  · rw [kIf_f q, kIf_f (fun g => q ⟨by omega, by omega, g.2.2⟩)]
theorem kLen_grow {N : Nat} {len : kF} (hL : kLen N len) (hN : N < 24) : kLen (N + 1) len := by
  refine ⟨by omega, fun u v hu hv => ?_⟩
  rcases hL.2 u v hu hv with g | g
  · exact Or.inl g
  · exact Or.inr ⟨by omega, by omega, g.2.2⟩
theorem kOkn_grow {N : Nat} {len : kF} (h : kOkn N len) (hN : N < 24) : kOkn (N + 1) len := ⟨kLen_grow h.1 hN, by rw [kG_grow h.1 hN]; exact h.2⟩
theorem kChain_grow {N O : Nat} {sz bg en ln : kF} (hN : N < 24) : ∀ (i : Nat) (len : kF), kChain N O sz bg en ln i len → kChain (N + 1) O sz bg en ln i len := by
  intro i
  induction i with
  | zero => intro len h; exact kOkn_grow h hN
  | succ i ih => intro len h; exact ⟨kOkn_grow h.1 hN, ih _ h.2⟩
theorem kFst_n {P : Nat → Prop} {N : Nat} {y : Int32} (h : kFst P (N + 1) y) (hP : ¬ P N) : kFst P N y := by
  rcases h with ⟨a1, a2⟩ | ⟨u, a1, a2, a3, a4⟩
  · exact Or.inl ⟨a1, fun u hu => a2 u (by omega)⟩
  · refine Or.inr ⟨u, ?_, a2, a3, a4⟩
    rcases Nat.lt_or_ge u N with g | g
    · exact g
    · exact absurd (by rw [show N = u by omega]; exact a2) hP
theorem kRel_grow {N s : Nat} {len : kF} (h : kOkn N len) (hN : N < 24) (hs : s < N) {v : Nat} (hv : v < 24) : (kRel N len s).1 v = (kRel (N + 1) len s).1 v ∧ (kRel N len s).2.1 v = (kRel (N + 1) len s).2.1 v := by
  obtain ⟨hL, hR⟩ := h
  have hL2 := kLen_grow hL hN
  have hG := kG_grow hL hN
  have hR2 : kNR (kG (N + 1) len) := by rw [hG]; exact hR
  rcases Nat.lt_or_ge v (N + 1) with g | g
  · have h2 := kRel_ok hL2 (show s < N + 1 by omega) hR2 v g
    rw [hG] at h2
    rcases Nat.lt_or_ge v N with g3 | g3
    · rcases kRel_ok hL hs hR v g3 with ⟨a1, a2, a3⟩ | ⟨a1, k, a2, a3, a4⟩
      · rcases h2 with ⟨b1, b2, b3⟩ | ⟨b1, k2, b2, b3, b4⟩
        · exact ⟨by rw [a1, b1], by rw [a2, b2]⟩
        · exact absurd b4.1 (a3 _ _)
      · rcases h2 with ⟨b1, b2, b3⟩ | ⟨b1, k2, b2, b3, b4⟩
        · exact absurd a4.1 (b3 _ _)
        · obtain ⟨c1, c2⟩ := kLst_u a4 b4
          exact ⟨Int32.toInt_inj.mp c1, by rw [a3, b3, c2]⟩
    · obtain ⟨f1, f2⟩ := kRel_far (len := len) hs g3
      rcases h2 with ⟨b1, b2, b3⟩ | ⟨b1, k2, b2, b3, b4⟩
      · exact ⟨by rw [f1, b1], by rw [f2, b2]⟩
      · exfalso
        have w := b4.1
        cases k2 with
        | zero => have := w.1; omega
        | succ k2 =>
          obtain ⟨u, x, a, -⟩ := w
          have := (kLen_in u v x a).2
          omega
  · obtain ⟨f1, f2⟩ := kRel_far (len := len) hs (show N ≤ v by omega)
    obtain ⟨g1, g2⟩ := kRel_far (len := len) (show s < N + 1 by omega) g
    exact ⟨by rw [f1, g1], by rw [f2, g2]⟩
theorem kLen_row {N : Nat} {len : kF} (hL : kLen N len) {u : Nat} (hu : u < 24) {v : Nat} (hv : v < 24) (h : N ≤ u ∨ N ≤ v) : len (u * 24 + v) = (-1000000) := by
  rcases hL.2 u v hu hv with g | g
  · exact g
  · omega
theorem kSettle_grow {N : Nat} {len : kF} {y : Int32} (h : kOkn N len) (hN : N < 24) (hy : kPl N y) : kEqW (kSettle N len y) (kSettle (N + 1) len y) := by
  rcases hy with rfl | ⟨s, hs, rfl⟩
  · rw [kSettle_no, kSettle_no]; exact kEqW_r _
  · rw [kSettle_n (by omega) hs, kSettle_n (by omega) (by omega)]
    have hL := h.1
    have hd := fun v hv => kRel_grow h hN hs (v := v) hv
    have t1 := kTgU_ok (N := N) (len := len) (d := (kRel N len s).1) (h := (kRel N len s).2.1) (by omega) N (Nat.le_refl N)
    have t2 := kTgU_ok (N := N + 1) (len := len) (d := (kRel (N + 1) len s).1) (h := (kRel (N + 1) len s).2.1) (by omega) (N + 1) (Nat.le_refl _)
    refine ⟨fun v hv => ⟨(hd v hv).1, (hd v hv).2, ?_⟩, ?_⟩
    · show (kItr (kTgU N len (kRel N len s).1 (kRel N len s).2.1) N (kNo, 0)).1 v = (kItr (kTgU (N + 1) len (kRel (N + 1) len s).1 (kRel (N + 1) len s).2.1) (N + 1) (kNo, 0)).1 v
      rcases Nat.lt_or_ge v N with g | g
      · refine kFst_u (fun u hu => ?_) (t1.2.2 v g) (kFst_n (t2.2.2 v (by omega)) (fun w => w.2.1 (kLen_row hL (by omega) hv (Or.inl (Nat.le_refl _)))))
        unfold kPq
        rw [(hd u (by omega)).1, (hd u (by omega)).2, (hd v hv).1, (hd v hv).2]
      · rw [t1.2.1 v g]
        rcases Nat.lt_or_ge v (N + 1) with g2 | g2
        · rcases t2.2.2 v g2 with ⟨a1, -⟩ | ⟨u, a1, a2, -, -⟩
          · exact a1.symm
          · exact absurd (kLen_row hL (by omega) hv (Or.inr g)) a2.2.1
        · exact (t2.2.1 v g2).symm
    · show (kItr (kTgU N len (kRel N len s).1 (kRel N len s).2.1) N (kNo, 0)).2 = (kItr (kTgU (N + 1) len (kRel (N + 1) len s).1 (kRel (N + 1) len s).2.1) (N + 1) (kNo, 0)).2
      rw [t1.1, t2.1, kItr_s]
      have e1 : ∀ t, kCt (N + 1) len (kRel (N + 1) len s).1 N t = t := fun t => by
        unfold kCt
        rw [← (hd N (by omega)).1]
        exact kIf_t (kRel_far hs (Nat.le_refl _)).1
      rw [e1]
      refine kItr_c N 0 (fun u hu t => ?_)
      unfold kCt
      rw [(hd u (by omega)).1]
      by_cases q : (kRel (N + 1) len s).1 u = (-1000000)
      · rw [kIf_t q, kIf_t q]
      · rw [kIf_f q, kIf_f q, kItr_s]
        have e2 : ∀ t, kCt1 len (kRel (N + 1) len s).1 u N t = t := fun t => by
          unfold kCt1
          exact kIf_f (fun w => w.1 (kLen_row hL (by omega) hN (Or.inr (Nat.le_refl _))))
        rw [e2]
        refine kItr_c N t (fun v hv t => ?_)
        unfold kCt1 kTt
        rw [(hd u (by omega)).1, (hd v (by omega)).1]
-- affected
theorem kItr_tail {σ : Type} {f : Nat → σ → σ} {N : Nat} (s : σ) : ∀ n, (∀ k, N ≤ k → k < N + n → ∀ x, f k x = x) → kItr f (N + n) s = kItr f N s := by
  intro n
  induction n with
  | zero => intro _; rfl
  | succ n ih => intro h; rw [← Nat.add_assoc, kItr_s, ih (fun k h1 h2 => h k h1 (by omega)), h (N + n) (by omega) (by omega)]
noncomputable def mA1 (xd xh xp vd vh vp : kF) (z v : Nat) (t : Int32) : Int32 := kIf (xd (z * 24 + v) = vd (z * 24 + v) ∧ xh (z * 24 + v) = vh (z * 24 + v) ∧ xp (z * 24 + v) = vp (z * 24 + v)) t (t ||| ((1 : Int32) <<< (nI v &&& 31)))
theorem mS6_ok {xd xh xp vd vh vp xa : kF} {z : Nat} : ∀ n, kItr (mS6 xd xh xp vd vh vp z) n xa z = kItr (mA1 xd xh xp vd vh vp z) n (xa z) ∧ ∀ w, ¬ w = z → kItr (mS6 xd xh xp vd vh vp z) n xa w = xa w := by
  intro n
  induction n with
  | zero => exact ⟨rfl, fun _ _ => rfl⟩
  | succ n ih =>
    rw [kItr_s, kItr_s, ← ih.1]
    obtain ⟨i1, i2⟩ := ih
    revert i2
    generalize kItr (mS6 xd xh xp vd vh vp z) n xa = y
    intro i2
    unfold mS6 mA1
    by_cases q : xd (z * 24 + n) = vd (z * 24 + n) ∧ xh (z * 24 + n) = vh (z * 24 + n) ∧ xp (z * 24 + n) = vp (z * 24 + n)
    · rw [kIf_t q, kIf_t q]; exact ⟨pk_us, fun w hw => by rw [pk_un hw]; exact i2 w hw⟩
    · rw [kIf_f q, kIf_f q]; exact ⟨pk_us, fun w hw => by rw [pk_un hw]; exact i2 w hw⟩
theorem mS5_ok {N : Nat} {xd xh xp vd vh vp xa : kF} : ∀ n z, z < n → kItr (mS5 N xd xh xp vd vh vp) n xa z = kItr (mA1 xd xh xp vd vh vp z) N 0 := by
  intro n
  induction n with
  | zero => intro z hz; exact absurd hz (Nat.not_lt_zero _)
  | succ n ih =>
    intro z hz
    rw [kItr_s]
    revert ih
    generalize kItr (mS5 N xd xh xp vd vh vp) n xa = y
    intro ih
    unfold mS5
    obtain ⟨j1, j2⟩ := mS6_ok (xd := xd) (xh := xh) (xp := xp) (vd := vd) (vh := vh) (vp := vp) (xa := upd y n 0) (z := n) N
    by_cases e : z = n
    · subst e; rw [j1, pk_us]
    · rw [j2 z e, pk_un e]; exact ih z (by omega)
