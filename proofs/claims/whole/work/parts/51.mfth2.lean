/-- what is found of v among the first n rows -/
def mFn (G : Nat → Nat → Option Int) (s v n : Nat) (a b : Int32) : Prop := (a = 1000000 ∧ b = (-1000000) ∧ ∀ g c, g < n → ¬ kWk G s g v c) ∨ (¬ a = 1000000 ∧ ∃ k, k < n ∧ b = nI k ∧ kWk G s k v a.toInt ∧ ∀ g c, g < n → kWk G s g v c → a.toInt ≤ c ∧ (g < k → a.toInt < c))
theorem mL5_ok {N s v : Nat} {len lst : kF} (hL : kLen N len) (hv : v < N) (hr : ∀ g, g < N → mLs (kG N len) s g v (lst (g * 24 + v))) (f0 h0 : kF) : ∀ n, n ≤ N → mFn (kG N len) s v n ((kItr (mL5 lst v) n (upd f0 v 1000000, upd h0 v (-1000000))).1 v) ((kItr (mL5 lst v) n (upd f0 v 1000000, upd h0 v (-1000000))).2 v) ∧ ∀ w, ¬ w = v → (kItr (mL5 lst v) n (upd f0 v 1000000, upd h0 v (-1000000))).1 w = f0 w ∧ (kItr (mL5 lst v) n (upd f0 v 1000000, upd h0 v (-1000000))).2 w = h0 w := by
  have hN24 := hL.1
  intro n
  induction n with
  | zero =>
    intro _
    refine ⟨Or.inl ⟨pk_us, pk_us, fun g c hg => absurd hg (Nat.not_lt_zero _)⟩, fun w hw => ⟨pk_un hw, pk_un hw⟩⟩
  | succ n ih =>
    intro hn
    obtain ⟨i1, i2⟩ := ih (by omega)
    rw [kItr_s]
    revert i1 i2
    generalize kItr (mL5 lst v) n (upd f0 v 1000000, upd h0 v (-1000000)) = st
    obtain ⟨fl, fh⟩ := st
    intro i1 i2
    have hrn := hr n (by omega)
    by_cases q : fl v ≤ lst (n * 24 + v)
    · have e : mL5 lst v n (fl, fh) = (fl, fh) := by unfold mL5; exact kIf_t q
      rw [e]
      refine ⟨?_, i2⟩
      have q' := Int32.le_iff_toInt_le.mp q
      dsimp only at i1 ⊢
      rcases i1 with ⟨a1, a2, a3⟩ | ⟨a1, k, a2, a3, a4, a5⟩
      · refine Or.inl ⟨a1, a2, fun g c hg hw => ?_⟩
        by_cases z : g = n
        · subst z
          rcases hrn with ⟨-, b2⟩ | ⟨b1, b2, b3⟩
          · exact b2 c hw
          · have hab := kWk_abs (M := 1000) (kLen_abs hL) g v _ b2
            rw [a1, kmil] at q'
            omega
        · exact a3 g c (by omega) hw
      · refine Or.inr ⟨a1, k, by omega, a3, a4, fun g c hg hw => ?_⟩
        by_cases z : g = n
        · subst z
          rcases hrn with ⟨-, b2⟩ | ⟨b1, b2, b3⟩
          · exact absurd hw (b2 c)
          · have := b3 c hw
            exact ⟨by omega, fun z => by omega⟩
        · exact a5 g c (by omega) hw
    · have e : mL5 lst v n (fl, fh) = (upd fl v (lst (n * 24 + v)), upd fh v (nI n)) := by unfold mL5; exact kIf_f q
      rw [e]
      have q' : ¬ (fl v).toInt ≤ (lst (n * 24 + v)).toInt := fun z => q (Int32.le_iff_toInt_le.mpr z)
      dsimp only at i1 i2 ⊢
      refine ⟨?_, fun w hw => by rw [pk_un hw, pk_un hw]; exact i2 w hw⟩
      rw [pk_us, pk_us]
      rcases hrn with ⟨b1, -⟩ | ⟨b1, b2, b3⟩
      · exfalso
        rw [b1, kmil] at q'
        rcases i1 with ⟨a1, -⟩ | ⟨-, k, a2, a3, a4, -⟩
        · rw [a1, kmil] at q'; omega
        · have hab := kWk_abs (M := 1000) (kLen_abs hL) k v _ a4
          omega
      · refine Or.inr ⟨b1, n, by omega, rfl, b2, fun g c hg hw => ?_⟩
        by_cases z : g = n
        · subst z
          exact ⟨b3 c hw, fun z => absurd z (Nat.lt_irrefl _)⟩
        · rcases i1 with ⟨-, -, a3⟩ | ⟨-, k, a2, a3, a4, a5⟩
          · exact absurd hw (a3 g c (by omega))
          · have := (a5 g c (by omega) hw).1
            exact ⟨by omega, fun _ => by omega⟩
theorem mL4_ok {N s : Nat} {len lst : kF} (hL : kLen N len) (hr : ∀ g v, g < N → v < N → mLs (kG N len) s g v (lst (g * 24 + v))) (f : kF × kF × kF) : ∀ n, n ≤ N → ∀ v, v < n → mFn (kG N len) s v N ((kItr (mL4 N lst) n f).1 v) ((kItr (mL4 N lst) n f).2.1 v) ∧ (kItr (mL4 N lst) n f).2.2 v = (-1000000) := by
  intro n
  induction n with
  | zero => intro _ v hv; exact absurd hv (Nat.not_lt_zero _)
  | succ n ih =>
    intro hn v hv
    have ih := ih (by omega)
    rw [kItr_s]
    revert ih
    generalize kItr (mL4 N lst) n f = st
    obtain ⟨fl, fh, fp⟩ := st
    intro ih
    unfold mL4
    dsimp only
    obtain ⟨j1, j2⟩ := mL5_ok hL (v := n) (by omega) (fun g hg => hr g n hg (by omega)) fl fh N (Nat.le_refl N)
    by_cases z : v = n
    · subst z
      exact ⟨j1, pk_us⟩
    · rw [(j2 v z).1, (j2 v z).2, pk_un z]
      exact ih v (by omega)
theorem mFn_lst {N s v : Nat} {len : kF} {a b : Int32} (hL : kLen N len) (hs : s < N) (hR : kNR (kG N len)) (h : mFn (kG N len) s v N a b) : (a = 1000000 ∧ b = (-1000000) ∧ ∀ g c, ¬ kWk (kG N len) s g v c) ∨ (¬ a = 1000000 ∧ ∃ k, k < N ∧ b = nI k ∧ kLst (kG N len) s v a.toInt k) := by
  rcases h with ⟨a1, a2, a3⟩ | ⟨a1, k, a2, a3, a4, a5⟩
  · refine Or.inl ⟨a1, a2, fun g c w => ?_⟩
    obtain ⟨k, x, b1, b2, b3, b4⟩ := kShort kLen_in hs hR g g v c (Nat.le_refl _) w
    exact a3 k x b1 b4
  · refine Or.inr ⟨a1, k, a2, a3, a4, fun g c w => ?_⟩
    obtain ⟨k2, x, b1, b2, b3, b4⟩ := kShort kLen_in hs hR g g v c (Nat.le_refl _) w
    obtain ⟨c1, c2⟩ := a5 k2 x b1 b4
    rcases Nat.lt_or_ge k2 k with z | z
    · have := c2 z; omega
    · omega
/-- the first that is so -/
def kFst (P : Nat → Prop) (n : Nat) (y : Int32) : Prop := (y = (-1000000) ∧ ∀ u, u < n → ¬ P u) ∨ ∃ u, u < n ∧ P u ∧ (∀ w, w < u → ¬ P w) ∧ y = nI u
theorem kFst_u {P Q : Nat → Prop} {n : Nat} {y z : Int32} (hPQ : ∀ u, u < n → (P u ↔ Q u)) (a : kFst P n y) (b : kFst Q n z) : y = z := by
  rcases a with ⟨a1, a2⟩ | ⟨u, a1, a2, a3, a4⟩
  · rcases b with ⟨b1, b2⟩ | ⟨w, b1, b2, b3, b4⟩
    · rw [a1, b1]
    · exact absurd ((hPQ w b1).mpr b2) (a2 w b1)
  · rcases b with ⟨b1, b2⟩ | ⟨w, b1, b2, b3, b4⟩
    · exact absurd ((hPQ u a1).mp a2) (b2 u a1)
    · have : u = w := by
        rcases Nat.lt_or_ge u w with z | z
        · exact absurd ((hPQ u a1).mp a2) (b3 u z)
        · rcases Nat.lt_or_ge w u with z2 | z2
          · exact absurd ((hPQ w b1).mpr b2) (a3 w z2)
          · omega
      rw [a4, b4, this]
def mPq (xc fl fh : kF) (v u : Nat) : Prop := ¬ fl u = 1000000 ∧ ¬ xc (u * 24 + v) = 1000000 ∧ fl u + xc (u * 24 + v) = fl v ∧ fh u + 1 = fh v
/-- the reference's parents: from above down to 0, so the least stays -/
theorem mL7_ok {N v : Nat} {xc fl fh : kF} (fp : kF) (h0 : fp v = (-1000000)) : ∀ n, n ≤ N → ((kItr (mL7 N xc fl fh v) n fp v = (-1000000) ∧ ∀ u, N - n ≤ u → u < N → ¬ mPq xc fl fh v u) ∨ ∃ u, N - n ≤ u ∧ u < N ∧ mPq xc fl fh v u ∧ (∀ w, N - n ≤ w → w < u → ¬ mPq xc fl fh v w) ∧ kItr (mL7 N xc fl fh v) n fp v = nI u) ∧ ∀ w, ¬ w = v → kItr (mL7 N xc fl fh v) n fp w = fp w := by
  intro n
  induction n with
  | zero => intro _; exact ⟨Or.inl ⟨h0, fun u h1 h2 => by omega⟩, fun _ _ => rfl⟩
  | succ n ih =>
    intro hn
    obtain ⟨i1, i2⟩ := ih (by omega)
    rw [kItr_s]
    revert i1 i2
    generalize kItr (mL7 N xc fl fh v) n fp = p
    intro i1 i2
    by_cases q : mPq xc fl fh v (N - n - 1)
    · have e : mL7 N xc fl fh v n p = upd p v (nI (N - n - 1)) := by unfold mL7; exact kIf_t q
      rw [e]
      refine ⟨Or.inr ⟨N - n - 1, by omega, by omega, q, fun w h1 h2 => by omega, pk_us⟩, fun w hw => by rw [pk_un hw]; exact i2 w hw⟩
    · have e : mL7 N xc fl fh v n p = upd p v (p v) := by unfold mL7; exact kIf_f q
      rw [e]
      refine ⟨?_, fun w hw => by rw [pk_un hw]; exact i2 w hw⟩
      rw [pk_us]
      rcases i1 with ⟨a1, a2⟩ | ⟨u, a1, a2, a3, a4, a5⟩
      · refine Or.inl ⟨a1, fun u h1 h2 => ?_⟩
        by_cases z : u = N - n - 1
        · rw [z]; exact q
        · exact a2 u (by omega) h2
      · refine Or.inr ⟨u, by omega, a2, a3, fun w h1 h2 => ?_, a5⟩
        by_cases z : w = N - n - 1
        · rw [z]; exact q
        · exact a4 w (by omega) h2
theorem mL6_ok {N s : Nat} {xc fl fh : kF} (fp : kF) (h0 : ∀ v, v < N → fp v = (-1000000)) : ∀ n, n ≤ N → (∀ v, v < n → (v = s → kItr (mL6 N xc fl fh s) n fp v = (-1000000)) ∧ (¬ v = s → kFst (mPq xc fl fh v) N (kItr (mL6 N xc fl fh s) n fp v))) ∧ ∀ v, n ≤ v → kItr (mL6 N xc fl fh s) n fp v = fp v := by
  intro n
  induction n with
  | zero => intro _; exact ⟨fun v hv => absurd hv (Nat.not_lt_zero _), fun _ _ => rfl⟩
  | succ n ih =>
    intro hn
    obtain ⟨i1, i2⟩ := ih (by omega)
    rw [kItr_s]
    revert i1 i2
    generalize kItr (mL6 N xc fl fh s) n fp = p
    intro i1 i2
    by_cases q : n = s
    · have e : mL6 N xc fl fh s n p = p := by unfold mL6; exact kIf_t q
      rw [e]
      refine ⟨fun v hv => ?_, fun v hv => i2 v (by omega)⟩
      by_cases z : v = n
      · subst z
        exact ⟨fun _ => by rw [i2 v (Nat.le_refl _)]; exact h0 v (by omega), fun z => absurd q z⟩
      · exact i1 v (by omega)
    · have e : mL6 N xc fl fh s n p = kItr (mL7 N xc fl fh n) N p := by unfold mL6; exact kIf_f q
      rw [e]
      obtain ⟨j1, j2⟩ := mL7_ok (N := N) (v := n) (xc := xc) (fl := fl) (fh := fh) p (by rw [i2 n (Nat.le_refl _)]; exact h0 n (by omega)) N (Nat.le_refl N)
      refine ⟨fun v hv => ?_, fun v hv => by rw [j2 v (by omega)]; exact i2 v (by omega)⟩
      by_cases z : v = n
      · subst z
        refine ⟨fun z => absurd z q, fun _ => ?_⟩
        rcases j1 with ⟨a1, a2⟩ | ⟨u, a1, a2, a3, a4, a5⟩
        · exact Or.inl ⟨a1, fun u hu => a2 u (by omega) hu⟩
        · exact Or.inr ⟨u, a2, a3, fun w hw => a4 w (by omega) hw, a5⟩
      · rw [j2 v z]
        exact i1 v (by omega)
/-- all that the reference finds -/
theorem mFind_ok {N s : Nat} {len xc : kF} (hL : kLen N len) (hx : kXc len xc) (hs : s < N) (hR : kNR (kG N len)) (f : mFd) : ∀ v, v < N →
    (((mFind N xc s f).2.1 v = 1000000 ∧ (mFind N xc s f).2.2.1 v = (-1000000) ∧ ∀ g c, ¬ kWk (kG N len) s g v c) ∨ (¬ (mFind N xc s f).2.1 v = 1000000 ∧ ∃ k, k < N ∧ (mFind N xc s f).2.2.1 v = nI k ∧ kLst (kG N len) s v ((mFind N xc s f).2.1 v).toInt k)) ∧
    ((v = s → (mFind N xc s f).2.2.2 v = (-1000000)) ∧ (¬ v = s → kFst (mPq xc (mFind N xc s f).2.1 (mFind N xc s f).2.2.1 v) N ((mFind N xc s f).2.2.2 v))) := by
  have h1 := fun g v hg hv => mL_ok (s := s) hL hx f.1 N (Nat.le_refl N) g v hg hv
  have h2 := mL4_ok hL h1 f.2 N (Nat.le_refl N)
  intro v hv
  refine ⟨mFn_lst hL hs hR (h2 v hv).1, ?_⟩
  exact (mL6_ok _ (fun v hv => (h2 v hv).2) N (Nat.le_refl N)).1 v hv
