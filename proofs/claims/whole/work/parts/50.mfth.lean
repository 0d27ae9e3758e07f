/-! the reference's find: least lengths by the number of arcs, then the least of them -/
/-- a length of the class's net as the reference holds it -/
noncomputable def kTo (x : Int32) : Int32 := kIf (x = (-1000000)) 1000000 x
def kXc (len xc : kF) : Prop := ∀ u v, u < 24 → v < 24 → xc (u * 24 + v) = kTo (len (u * 24 + v))
theorem kTo_no {N : Nat} {len : kF} (hL : kLen N len) {u v : Nat} (hu : u < 24) (hv : v < 24) : kTo (len (u * 24 + v)) = 1000000 ↔ len (u * 24 + v) = (-1000000) := by
  unfold kTo
  constructor
  · intro h
    by_cases q : len (u * 24 + v) = (-1000000)
    · exact q
    · rw [kIf_f q] at h
      rcases hL.2 u v hu hv with g | g
      · exact g
      · exfalso
        have : (len (u * 24 + v)).toInt = 1000000 := by rw [h]; decide
        omega
  · intro h; exact kIf_t h
theorem kTo_some {len : kF} {k : Nat} (h : ¬ len k = (-1000000)) : kTo (len k) = len k := kIf_f h
/-- y is the least length of the walks of just h arcs, or there is none -/
def mLs (G : Nat → Nat → Option Int) (s h v : Nat) (y : Int32) : Prop := (y = 1000000 ∧ ∀ c, ¬ kWk G s h v c) ∨ (¬ y = 1000000 ∧ kWk G s h v y.toInt ∧ ∀ c, kWk G s h v c → y.toInt ≤ c)
theorem kmil : (1000000 : Int32).toInt = 1000000 := by decide
theorem mB3_ok {N s h v : Nat} {len xc lst : kF} (hL : kLen N len) (hx : kXc len xc) (hv : v < N) (hh : h < 24) (hr : ∀ u, u < N → mLs (kG N len) s h u (lst (h * 24 + u))) :
    ∀ n, n ≤ N → (kItr (mB3 xc lst (h + 1) v) n 1000000 = 1000000 ∧ ∀ u x c, u < n → kG N len u v = some x → ¬ kWk (kG N len) s h u c) ∨ (¬ kItr (mB3 xc lst (h + 1) v) n 1000000 = 1000000 ∧ kWk (kG N len) s (h + 1) v (kItr (mB3 xc lst (h + 1) v) n 1000000).toInt ∧ ∀ u x c, u < n → kG N len u v = some x → kWk (kG N len) s h u c → (kItr (mB3 xc lst (h + 1) v) n 1000000).toInt ≤ c + x) := by
  intro n
  induction n with
  | zero => intro _; exact Or.inl ⟨rfl, fun u x c hu => absurd hu (Nat.not_lt_zero _)⟩
  | succ n ih =>
    intro hn
    have hN24 := hL.1
    have ih := ih (by omega)
    rw [kItr_s]
    revert ih
    generalize kItr (mB3 xc lst (h + 1) v) n 1000000 = b
    intro ih
    have hrn := hr n (by omega)
    have hxn := hx n v (by omega) (by omega)
    have hto := kTo_no hL (u := n) (v := v) (by omega) (by omega)
    have ee : (h + 1 - 1) * 24 + n = h * 24 + n := by rw [Nat.add_sub_cancel]
    by_cases q1 : lst (h * 24 + n) = 1000000
    · have e : mB3 xc lst (h + 1) v n b = b := by unfold mB3; rw [ee]; exact kIf_t q1
      rw [e]
      rcases hrn with ⟨-, g⟩ | ⟨g, -⟩
      · rcases ih with ⟨i1, i2⟩ | ⟨i1, i2, i3⟩
        · refine Or.inl ⟨i1, fun u x c hu hux => ?_⟩
          by_cases z : u = n
          · subst z; exact g c
          · exact i2 u x c (by omega) hux
        · refine Or.inr ⟨i1, i2, fun u x c hu hux hw => ?_⟩
          by_cases z : u = n
          · subst z; exact absurd hw (g c)
          · exact i3 u x c (by omega) hux hw
      · exact absurd q1 g
    · by_cases q2 : xc (n * 24 + v) = 1000000
      · have e : mB3 xc lst (h + 1) v n b = b := by unfold mB3; rw [ee, kIf_f q1]; exact kIf_t q2
        rw [e]
        have q3 : len (n * 24 + v) = (-1000000) := hto.mp (by rw [← hxn]; exact q2)
        have hno : ∀ x, ¬ kG N len n v = some x := fun x hx' => (kG_some.mp hx').1.2.2 q3
        rcases ih with ⟨i1, i2⟩ | ⟨i1, i2, i3⟩
        · refine Or.inl ⟨i1, fun u x c hu hux => ?_⟩
          by_cases z : u = n
          · subst z; exact absurd hux (hno x)
          · exact i2 u x c (by omega) hux
        · refine Or.inr ⟨i1, i2, fun u x c hu hux hw => ?_⟩
          by_cases z : u = n
          · subst z; exact absurd hux (hno x)
          · exact i3 u x c (by omega) hux hw
      · have q3 : ¬ len (n * 24 + v) = (-1000000) := fun z => q2 (by rw [hxn]; exact hto.mpr z)
        have hxe : xc (n * 24 + v) = len (n * 24 + v) := by rw [hxn]; exact kTo_some q3
        have hg : kG N len n v = some (len (n * 24 + v)).toInt := kG_some.mpr ⟨⟨by omega, hv, q3⟩, rfl⟩
        have hab := kLen_abs hL n v _ hg
        rcases hrn with ⟨g, -⟩ | ⟨g1, g2, g3⟩
        · exact absurd g q1
        · have hab2 := kWk_abs (M := 1000) (kLen_abs hL) h n _ g2
          have hsum : (lst (h * 24 + n) + xc (n * 24 + v)).toInt = (lst (h * 24 + n)).toInt + (len (n * 24 + v)).toInt := by rw [hxe]; exact kadd (by omega) (by omega)
          have hwn := kWk_s g2 hg
          by_cases q4 : b ≤ lst (h * 24 + n) + xc (n * 24 + v)
          · have e : mB3 xc lst (h + 1) v n b = b := by unfold mB3; rw [ee, kIf_f q1, kIf_f q2]; exact kIf_t q4
            rw [e]
            have q4' := Int32.le_iff_toInt_le.mp q4
            rcases ih with ⟨i1, i2⟩ | ⟨i1, i2, i3⟩
            · exfalso
              rw [i1, kmil] at q4'
              omega
            · refine Or.inr ⟨i1, i2, fun u x c hu hux hw => ?_⟩
              by_cases z : u = n
              · subst z
                have ex : (len (u * 24 + v)).toInt = x := Option.some.inj (hg.symm.trans hux)
                have := g3 c hw
                omega
              · exact i3 u x c (by omega) hux hw
          · have e : mB3 xc lst (h + 1) v n b = lst (h * 24 + n) + xc (n * 24 + v) := by unfold mB3; rw [ee, kIf_f q1, kIf_f q2]; exact kIf_f q4
            rw [e]
            have q4' : ¬ b.toInt ≤ (lst (h * 24 + n) + xc (n * 24 + v)).toInt := fun z => q4 (Int32.le_iff_toInt_le.mpr z)
            refine Or.inr ⟨fun z => ?_, ?_, fun u x c hu hux hw => ?_⟩
            · rw [z, kmil] at hsum
              omega
            · rw [hsum]; exact hwn
            · by_cases z : u = n
              · subst z
                have ex : (len (u * 24 + v)).toInt = x := Option.some.inj (hg.symm.trans hux)
                have := g3 c hw
                omega
              · rcases ih with ⟨i1, i2⟩ | ⟨i1, i2, i3⟩
                · exact absurd hw (i2 u x c (by omega) hux)
                · have := i3 u x c (by omega) hux hw
                  omega
/-- a row of the table, out of the row before -/
theorem mBest_ok {N s h v : Nat} {len xc lst : kF} (hL : kLen N len) (hx : kXc len xc) (hv : v < N) (hh : h < N) (hr : 0 < h → ∀ u, u < N → mLs (kG N len) s (h - 1) u (lst ((h - 1) * 24 + u))) : mLs (kG N len) s h v (mBest N xc lst s h v) := by
  have hN24 := hL.1
  rcases Nat.eq_zero_or_pos h with h0 | h0
  · subst h0
    unfold mBest
    rw [kIf_t rfl]
    by_cases q : v = s
    · rw [kIf_t q]
      exact Or.inr ⟨by decide, ⟨q, rfl⟩, fun c w => by rw [w.2]; decide⟩
    · rw [kIf_f q]
      exact Or.inl ⟨rfl, fun c w => q w.1⟩
  · obtain ⟨k, rfl⟩ : ∃ k, h = k + 1 := ⟨h - 1, by omega⟩
    unfold mBest
    rw [kIf_f (by omega)]
    have hr := hr (by omega)
    rw [Nat.add_sub_cancel] at hr
    rcases mB3_ok hL hx hv (by omega) hr N (Nat.le_refl N) with ⟨i1, i2⟩ | ⟨i1, i2, i3⟩
    · refine Or.inl ⟨i1, fun c w => ?_⟩
      obtain ⟨u, x, a, w2⟩ := w
      exact i2 u x _ (kLen_in u v x a).1 a w2
    · refine Or.inr ⟨i1, i2, fun c w => ?_⟩
      obtain ⟨u, x, a, w2⟩ := w
      have := i3 u x _ (kLen_in u v x a).1 a w2
      omega
theorem mL_ok {N s : Nat} {len xc : kF} (hL : kLen N len) (hx : kXc len xc) (l0 : kF) : ∀ h, h ≤ N → ∀ g v, g < h → v < N → mLs (kG N len) s g v (kItr (mL1 N xc s) h l0 (g * 24 + v)) := by
  have hN24 := hL.1
  intro h
  induction h with
  | zero => intro _ g v hg; exact absurd hg (Nat.not_lt_zero _)
  | succ h ih =>
    intro hh
    have ih := ih (by omega)
    rw [kItr_s]
    revert ih
    generalize kItr (mL1 N xc s) h l0 = lst
    intro ih
    unfold mL1
    have key : ∀ n, n ≤ N → (∀ g v, g < h → v < N → mLs (kG N len) s g v (kItr (mL2 N xc s h) n lst (g * 24 + v))) ∧ (∀ v, v < n → mLs (kG N len) s h v (kItr (mL2 N xc s h) n lst (h * 24 + v))) := by
      intro n
      induction n with
      | zero => intro _; exact ⟨ih, fun v hv => absurd hv (Nat.not_lt_zero _)⟩
      | succ n ihn =>
        intro hn
        obtain ⟨j1, j2⟩ := ihn (by omega)
        rw [kItr_s]
        revert j1 j2
        generalize kItr (mL2 N xc s h) n lst = l2
        intro j1 j2
        unfold mL2
        refine ⟨fun g v hg hv => ?_, fun v hv => ?_⟩
        · rw [pk_un (by omega)]; exact j1 g v hg hv
        · by_cases z : v = n
          · subst z
            rw [pk_us]
            exact mBest_ok hL hx (by omega) (by omega) (fun h0 u hu => j1 (h - 1) u (by omega) hu)
          · rw [pk_un (by omega)]; exact j2 v (by omega)
    intro g v hg hv
    by_cases z : g = h
    · subst z; exact (key N (Nat.le_refl N)).2 v hv
    · exact (key N (Nat.le_refl N)).1 g v (by omega) hv
