/-! walks in a net: G u v is the length of the arc from u to v, if there is one -/
def kWk (G : Nat → Nat → Option Int) (s : Nat) : Nat → Nat → Int → Prop
  | 0, v, c => v = s ∧ c = 0
  | h + 1, v, c => ∃ (u : Nat) (x : Int), G u v = some x ∧ kWk G s h u (c - x)
theorem kWk_0 (G : Nat → Nat → Option Int) (s : Nat) : kWk G s 0 s 0 := ⟨rfl, rfl⟩
theorem kWk_s {G : Nat → Nat → Option Int} {s h u v : Nat} {c x : Int} (w : kWk G s h u c) (a : G u v = some x) : kWk G s (h + 1) v (c + x) :=
  ⟨u, x, a, by rw [Int.add_sub_cancel]; exact w⟩
theorem kWk_app {G : Nat → Nat → Option Int} {s u : Nat} {h : Nat} {c : Int} (w : kWk G s h u c) : ∀ (k v : Nat) (x : Int), kWk G u k v x → kWk G s (h + k) v (c + x) := by
  intro k
  induction k with
  | zero =>
    intro v x w2
    obtain ⟨rfl, rfl⟩ := w2
    simpa using w
  | succ k ih =>
    intro v x w2
    obtain ⟨z, y, a, w3⟩ := w2
    have := kWk_s (ih z _ w3) a
    rw [show c + (x - y) + y = c + x by omega] at this
    exact this
/-- no ring falls -/
def kNR (G : Nat → Nat → Option Int) : Prop := ∀ (v h : Nat) (c : Int), kWk G v h v c → 0 ≤ c
/-- the nodes are below N -/
def kIn (N : Nat) (G : Nat → Nat → Option Int) : Prop := ∀ (u v : Nat) (x : Int), G u v = some x → u < N ∧ v < N
theorem kPig : ∀ (N : Nat) (f : Nat → Nat), (∀ i, i ≤ N → f i < N) → ∃ i j, i < j ∧ j ≤ N ∧ f i = f j := by
  intro N
  induction N with
  | zero => intro f h; exact absurd (h 0 (Nat.le_refl 0)) (Nat.not_lt_zero _)
  | succ N ih =>
    intro f h
    by_cases q : ∃ i, i ≤ N ∧ f i = f (N + 1)
    · obtain ⟨i, h1, h2⟩ := q
      exact ⟨i, N + 1, by omega, Nat.le_refl _, h2⟩
    · have hne : ∀ i, i ≤ N → f i ≠ f (N + 1) := fun i h1 h2 => q ⟨i, h1, h2⟩
      obtain ⟨i, j, h1, h2, h3⟩ := ih (fun i => if f (N + 1) < f i then f i - 1 else f i) (fun i hi => by
        have a := h i (by omega)
        have b := h (N + 1) (Nat.le_refl _)
        have c := hne i hi
        show (if f (N + 1) < f i then f i - 1 else f i) < N
        split <;> omega)
      refine ⟨i, j, h1, by omega, ?_⟩
      have a := hne i (by omega)
      have b := hne j h2
      have h3 : (if f (N + 1) < f i then f i - 1 else f i) = (if f (N + 1) < f j then f j - 1 else f j) := h3
      split at h3 <;> split at h3 <;> omega
theorem kWk_path {G : Nat → Nat → Option Int} {s : Nat} : ∀ (h v : Nat) (c : Int), kWk G s h v c → ∃ (f : Nat → Nat) (L : Nat → Int), f h = v ∧ L h = c ∧ f 0 = s ∧ L 0 = 0 ∧ ∀ i, i < h → ∃ x, G (f i) (f (i + 1)) = some x ∧ L (i + 1) = L i + x := by
  intro h
  induction h with
  | zero =>
    intro v c w
    obtain ⟨rfl, rfl⟩ := w
    exact ⟨fun _ => v, fun _ => 0, rfl, rfl, rfl, rfl, fun i hi => absurd hi (Nat.not_lt_zero _)⟩
  | succ h ih =>
    intro v c w
    obtain ⟨u, x, a, w2⟩ := w
    obtain ⟨f, L, h1, h2, h3, h4, h5⟩ := ih u _ w2
    refine ⟨fun i => if i ≤ h then f i else v, fun i => if i ≤ h then L i else c, if_neg (by omega), if_neg (by omega), by simp [h3], by simp [h4], fun i hi => ?_⟩
    by_cases q : i < h
    · obtain ⟨y, g1, g2⟩ := h5 i q
      refine ⟨y, ?_, ?_⟩
      · simp [show i ≤ h by omega, show i + 1 ≤ h by omega]; exact g1
      · simp [show i ≤ h by omega, show i + 1 ≤ h by omega]; exact g2
    · have e : i = h := by omega
      subst e
      refine ⟨x, ?_, ?_⟩
      · show G (if i ≤ i then f i else v) (if i + 1 ≤ i then f (i + 1) else v) = some x
        rw [if_pos (Nat.le_refl _), if_neg (by omega), h1]
        exact a
      · show (if i + 1 ≤ i then L (i + 1) else c) = (if i ≤ i then L i else c) + x
        rw [if_pos (Nat.le_refl _), if_neg (by omega), h2]
        omega
theorem kWk_seg {G : Nat → Nat → Option Int} {h : Nat} {f : Nat → Nat} {L : Nat → Int} (h5 : ∀ i, i < h → ∃ x, G (f i) (f (i + 1)) = some x ∧ L (i + 1) = L i + x) (i : Nat) : ∀ j, i + j ≤ h → kWk G (f i) j (f (i + j)) (L (i + j) - L i) := by
  intro j
  induction j with
  | zero => intro _; exact ⟨rfl, by simp⟩
  | succ j ih =>
    intro hj
    obtain ⟨x, a, b⟩ := h5 (i + j) (by omega)
    have := kWk_s (ih (by omega)) a
    rw [show L (i + j) - L i + x = L (i + (j + 1)) - L i by rw [← Nat.add_assoc, b]; omega] at this
    exact this
/-- a walk of N arcs or more has a ring in it: without it, it is no longer -/
theorem kCut {G : Nat → Nat → Option Int} {N s h v : Nat} {c : Int} (hN : kIn N G) (hs : s < N) (hr : kNR G) (w : kWk G s h v c) (hh : N ≤ h) : ∃ (k : Nat) (x : Int), k < h ∧ x ≤ c ∧ kWk G s k v x := by
  obtain ⟨f, L, h1, h2, h3, h4, h5⟩ := kWk_path h v c w
  have hf : ∀ i, i ≤ N → f i < N := by
    intro i hi
    cases i with
    | zero => rw [h3]; exact hs
    | succ i => obtain ⟨x, a, -⟩ := h5 i (by omega); exact (hN _ _ _ a).2
  obtain ⟨i, j, g1, g2, g3⟩ := kPig N f hf
  have hring := kWk_seg h5 i (j - i) (by omega)
  rw [show i + (j - i) = j by omega, ← g3] at hring
  have hr0 := hr _ _ _ hring
  have wa := kWk_seg h5 0 i (by omega)
  have wb := kWk_seg h5 j (h - j) (by omega)
  rw [show j + (h - j) = h by omega, ← g3, h1, h2] at wb
  rw [show 0 + i = i by omega, h3, h4] at wa
  have := kWk_app wa _ _ _ wb
  exact ⟨i + (h - j), _, by omega, by omega, this⟩
theorem kShort {G : Nat → Nat → Option Int} {N s : Nat} (hN : kIn N G) (hs : s < N) (hr : kNR G) : ∀ (n h v : Nat) (c : Int), h ≤ n → kWk G s h v c → ∃ (k : Nat) (x : Int), k < N ∧ k ≤ h ∧ x ≤ c ∧ kWk G s k v x := by
  intro n
  induction n with
  | zero =>
    intro h v c h0 w
    exact ⟨h, c, by omega, Nat.le_refl _, Int.le_refl _, w⟩
  | succ n ih =>
    intro h v c h0 w
    by_cases q : h < N
    · exact ⟨h, c, q, Nat.le_refl _, Int.le_refl _, w⟩
    · obtain ⟨k, x, a1, a2, a3⟩ := kCut hN hs hr w (by omega)
      obtain ⟨k2, x2, b1, b2, b3, b4⟩ := ih k v x (by omega) a3
      exact ⟨k2, x2, b1, by omega, by omega, b4⟩
/-- (c, k): the least length, and of that the fewest arcs -/
def kLst (G : Nat → Nat → Option Int) (s v : Nat) (c : Int) (k : Nat) : Prop := kWk G s k v c ∧ ∀ (h : Nat) (x : Int), kWk G s h v x → c < x ∨ (c = x ∧ k ≤ h)
theorem kLst_u {G : Nat → Nat → Option Int} {s v k k' : Nat} {c c' : Int} (a : kLst G s v c k) (b : kLst G s v c' k') : c = c' ∧ k = k' := by
  have h1 := a.2 _ _ b.1
  have h2 := b.2 _ _ a.1
  omega
theorem kLst_lt {G : Nat → Nat → Option Int} {N s v k : Nat} {c : Int} (hN : kIn N G) (hs : s < N) (hr : kNR G) (a : kLst G s v c k) : k < N := by
  obtain ⟨k2, x, b1, b2, b3, b4⟩ := kShort hN hs hr k k v c (Nat.le_refl _) a.1
  have := a.2 _ _ b4
  omega
/-- arcs are at most M long: so is a walk, an arc -/
theorem kWk_abs {G : Nat → Nat → Option Int} {M : Int} (hM : ∀ u v x, G u v = some x → -M ≤ x ∧ x ≤ M) {s : Nat} : ∀ (h v : Nat) (c : Int), kWk G s h v c → -(M * h) ≤ c ∧ c ≤ M * h := by
  intro h
  induction h with
  | zero => intro v c w; obtain ⟨-, rfl⟩ := w; simp
  | succ h ih =>
    intro v c w
    obtain ⟨u, x, a, w2⟩ := w
    have h1 := ih u _ w2
    have h2 := hM u v x a
    have e : M * ((h + 1 : Nat) : Int) = M * (h : Int) + M := by
      rw [Int.natCast_add, Int.mul_add]; simp
    rw [e]
    omega
/-- the net with the arc from a to b put (some) or taken (none) -/
def kSetG (G : Nat → Nat → Option Int) (a b : Nat) (o : Option Int) : Nat → Nat → Option Int := fun u v => if u = a ∧ v = b then o else G u v
theorem kWk_mono {G G' : Nat → Nat → Option Int} (hG : ∀ u v x, G u v = some x → G' u v = some x) {s : Nat} : ∀ (h v : Nat) (c : Int), kWk G s h v c → kWk G' s h v c := by
  intro h
  induction h with
  | zero => intro v c w; exact w
  | succ h ih =>
    intro v c w
    obtain ⟨u, x, a, w2⟩ := w
    exact ⟨u, x, hG _ _ _ a, ih _ _ w2⟩
/-- a walk with an arc from a to b is one without it, or has a first and a last stretch without it -/
theorem kSplit {G : Nat → Nat → Option Int} {a b : Nat} {L : Int} (hL : ∀ (k : Nat) (z : Int), kWk (kSetG G a b none) b k a z → 0 ≤ z + L) {s : Nat} : ∀ (h v : Nat) (c : Int), kWk (kSetG G a b (some L)) s h v c →
    kWk (kSetG G a b none) s h v c ∨ ∃ (k1 k2 : Nat) (c1 c2 : Int), kWk (kSetG G a b none) s k1 a c1 ∧ kWk (kSetG G a b none) b k2 v c2 ∧ c1 + L + c2 ≤ c ∧ k1 + 1 + k2 ≤ h := by
  intro h
  induction h with
  | zero => intro v c w; exact Or.inl w
  | succ h ih =>
    intro v c w
    obtain ⟨u, x, hx, w2⟩ := w
    by_cases q : u = a ∧ v = b
    · obtain ⟨rfl, rfl⟩ := q
      have ex : L = x := by
        have : kSetG G u v (some L) u v = some L := by simp [kSetG]
        rw [this] at hx
        exact Option.some.inj hx
      subst ex
      rcases ih u _ w2 with g | ⟨k1, k2, c1, c2, g1, g2, g3, g4⟩
      · exact Or.inr ⟨h, 0, c - L, 0, g, kWk_0 _ _, by omega, by omega⟩
      · have := hL k2 c2 g2
        exact Or.inr ⟨k1, 0, c1, 0, g1, kWk_0 _ _, by omega, by omega⟩
    · have hx' : kSetG G a b none u v = some x := by
        unfold kSetG at hx ⊢
        rw [if_neg q] at hx ⊢
        exact hx
      rcases ih u _ w2 with g | ⟨k1, k2, c1, c2, g1, g2, g3, g4⟩
      · exact Or.inl ⟨u, x, hx', g⟩
      · refine Or.inr ⟨k1, k2 + 1, c1, c2 + x, g1, kWk_s g2 hx', by omega, by omega⟩
/-- an arc that closes no falling ring -/
theorem kNR_put {G : Nat → Nat → Option Int} {a b : Nat} {L : Int} (hG : kNR (kSetG G a b none)) (hL : ∀ (k : Nat) (z : Int), kWk (kSetG G a b none) b k a z → 0 ≤ z + L) : kNR (kSetG G a b (some L)) := by
  intro v h c w
  rcases kSplit hL h v c w with g | ⟨k1, k2, c1, c2, g1, g2, g3, g4⟩
  · exact hG _ _ _ g
  · have := hL _ _ (kWk_app g2 _ _ _ g1)
    omega
theorem kNR_take {G : Nat → Nat → Option Int} {a b : Nat} (hG : kNR G) : kNR (kSetG G a b none) := by
  intro v h c w
  refine hG v h c (kWk_mono (fun u v x hx => ?_) h v c w)
  unfold kSetG at hx
  split at hx
  · cases hx
  · exact hx
/-- an arc to where the walks begin is of no use -/
theorem kDrop {G : Nat → Nat → Option Int} {a b : Nat} (hG : kNR G) : ∀ (h v : Nat) (c : Int), kWk G b h v c → ∃ (k : Nat) (x : Int), kWk (kSetG G a b none) b k v x ∧ x ≤ c ∧ k ≤ h := by
  intro h
  induction h with
  | zero => intro v c w; exact ⟨0, c, w, Int.le_refl _, Nat.le_refl _⟩
  | succ h ih =>
    intro v c w
    have w0 := w
    obtain ⟨u, x, hx, w2⟩ := w
    by_cases q : u = a ∧ v = b
    · obtain ⟨rfl, rfl⟩ := q
      exact ⟨0, 0, kWk_0 _ _, hG _ _ _ w0, by omega⟩
    · obtain ⟨k, y, g1, g2, g3⟩ := ih u _ w2
      have hx' : kSetG G a b none u v = some x := by
        unfold kSetG
        rw [if_neg q]
        exact hx
      exact ⟨k + 1, y + x, kWk_s g1 hx', by omega, by omega⟩
theorem kSet_sub {G : Nat → Nat → Option Int} {a b : Nat} : ∀ u v x, kSetG G a b none u v = some x → G u v = some x := by
  intro u v x hx
  unfold kSetG at hx
  split at hx
  · cases hx
  · exact hx
theorem kLst_src {G : Nat → Nat → Option Int} {a b v k : Nat} {c : Int} (hG : kNR G) : kLst G b v c k ↔ kLst (kSetG G a b none) b v c k := by
  constructor
  · intro h
    obtain ⟨k2, x, g1, g2, g3⟩ := kDrop (a := a) hG k v c h.1
    have h1 := h.2 _ _ (kWk_mono kSet_sub _ _ _ g1)
    have e1 : x = c := by omega
    have e2 : k2 = k := by omega
    subst e1 e2
    exact ⟨g1, fun h2 x2 w => h.2 _ _ (kWk_mono kSet_sub _ _ _ w)⟩
  · intro h
    refine ⟨kWk_mono kSet_sub _ _ _ h.1, fun h2 x2 w => ?_⟩
    obtain ⟨k2, x, g1, g2, g3⟩ := kDrop (a := a) hG h2 v x2 w
    have := h.2 _ _ g1
    omega
