/-! class and reference find the same ways -/
theorem kItr_c {σ : Type} {f g : Nat → σ → σ} : ∀ (n : Nat) (s : σ), (∀ k, k < n → ∀ x, f k x = g k x) → kItr f n s = kItr g n s := by
  intro n
  induction n with
  | zero => intro s _; rfl
  | succ n ih => intro s h; rw [kItr_s, kItr_s, ih s (fun k hk => h k (by omega)), h n (by omega)]
-- beyond the nodes nothing is written
theorem kFol_far {len : kF} {u v w : Nat} {st : kF × kF × Int32} (h : ¬ w = v) : (kFol len u v st).1 w = st.1 w ∧ (kFol len u v st).2.1 w = st.2.1 w := by
  unfold kFol
  by_cases q : len (u * 24 + v) = (-1000000)
  · rw [kIf_t q]; exact ⟨rfl, rfl⟩
  · rw [kIf_f q]
    by_cases b : kBet st.1 st.2.1 v (st.1 u + len (u * 24 + v)) (st.2.1 u + 1)
    · rw [kIf_t b]; exact ⟨pk_un h, pk_un h⟩
    · rw [kIf_f b]; exact ⟨rfl, rfl⟩
theorem kFolA_far {N : Nat} {len : kF} {u w : Nat} {d h : kF} (hw : N ≤ w) : (kFolA N len u d h).1 w = d w ∧ (kFolA N len u d h).2.1 w = h w := by
  have key : ∀ n, n ≤ N → (kItr (kFol len u) n (d, h, 0)).1 w = d w ∧ (kItr (kFol len u) n (d, h, 0)).2.1 w = h w := by
    intro n
    induction n with
    | zero => intro _; exact ⟨rfl, rfl⟩
    | succ n ih =>
      intro hn
      rw [kItr_s]
      have a := kFol_far (len := len) (u := u) (v := n) (w := w) (st := kItr (kFol len u) n (d, h, 0)) (by omega)
      exact ⟨a.1.trans (ih (by omega)).1, a.2.trans (ih (by omega)).2⟩
  exact key N (Nat.le_refl N)
theorem kRnd_far {N : Nat} {len : kF} {j w : Nat} {st : kF × kF × Int32} (hw : N ≤ w) : (kRnd N len j st).1 w = st.1 w ∧ (kRnd N len j st).2.1 w = st.2.1 w := by
  unfold kRnd
  by_cases q : st.2.2 = 0
  · rw [kIf_t q]; exact ⟨rfl, rfl⟩
  · rw [kIf_f q]
    have key : ∀ n, (kItr (kRnd1 N len st.2.2) n (st.1, st.2.1, 0)).1 w = st.1 w ∧ (kItr (kRnd1 N len st.2.2) n (st.1, st.2.1, 0)).2.1 w = st.2.1 w := by
      intro n
      induction n with
      | zero => exact ⟨rfl, rfl⟩
      | succ n ih =>
        rw [kItr_s]
        revert ih
        generalize kItr (kRnd1 N len st.2.2) n (st.1, st.2.1, 0) = x
        intro ih
        unfold kRnd1
        by_cases g : (st.2.2 >>> (nI n &&& 31)) &&& 1 = 0
        · rw [kIf_t g]; exact ih
        · rw [kIf_f g]
          have a := kFolA_far (len := len) (u := n) (d := x.1) (h := x.2.1) hw
          exact ⟨a.1.trans ih.1, a.2.trans ih.2⟩
    exact key N
theorem kRel_far {N : Nat} {len : kF} {s w : Nat} (hs : s < N) (hw : N ≤ w) : (kRel N len s).1 w = (-1000000) ∧ (kRel N len s).2.1 w = (-1000000) := by
  have key : ∀ n, (kItr (kRnd N len) n (upd kNo s 0, upd kNo s 0, (1 : Int32) <<< (nI s &&& 31))).1 w = (-1000000) ∧ (kItr (kRnd N len) n (upd kNo s 0, upd kNo s 0, (1 : Int32) <<< (nI s &&& 31))).2.1 w = (-1000000) := by
    intro n
    induction n with
    | zero => exact ⟨pk_un (by omega), pk_un (by omega)⟩
    | succ n ih =>
      rw [kItr_s]
      have a := kRnd_far (len := len) (j := n) (st := kItr (kRnd N len) n (upd kNo s 0, upd kNo s 0, (1 : Int32) <<< (nI s &&& 31))) hw
      exact ⟨a.1.trans ih.1, a.2.trans ih.2⟩
  exact key N
-- parents and tight arcs
def kTt (len d : kF) (u v : Nat) : Prop := ¬ len (u * 24 + v) = (-1000000) ∧ d u + len (u * 24 + v) = d v
def kPq (len d h : kF) (v u : Nat) : Prop := ¬ d u = (-1000000) ∧ ¬ len (u * 24 + v) = (-1000000) ∧ d u + len (u * 24 + v) = d v ∧ h u + 1 = h v
noncomputable def kCt1 (len d : kF) (u v : Nat) (t : Int32) : Int32 := kIf (kTt len d u v) (t + 1) t
noncomputable def kCt (N : Nat) (len d : kF) (u : Nat) (t : Int32) : Int32 := kIf (d u = (-1000000)) t (kItr (kCt1 len d u) N t)
theorem kTg_ok {len d h : kF} {u : Nat} (p : kF) (t : Int32) : ∀ n, (kItr (kTg len d h u) n (p, t)).2 = kItr (kCt1 len d u) n t ∧ (∀ v, n ≤ v → (kItr (kTg len d h u) n (p, t)).1 v = p v) ∧ ∀ v, v < n → ((kTt len d u v ∧ p v = (-1000000) ∧ h u + 1 = h v) → (kItr (kTg len d h u) n (p, t)).1 v = nI u) ∧ (¬ (kTt len d u v ∧ p v = (-1000000) ∧ h u + 1 = h v) → (kItr (kTg len d h u) n (p, t)).1 v = p v) := by
  intro n
  induction n with
  | zero => exact ⟨rfl, fun _ _ => rfl, fun v hv => absurd hv (Nat.not_lt_zero _)⟩
  | succ n ih =>
    obtain ⟨i1, i2, i3⟩ := ih
    rw [kItr_s, kItr_s]
    revert i1 i2 i3
    generalize kItr (kTg len d h u) n (p, t) = st
    obtain ⟨p1, t1⟩ := st
    intro i1 i2 i3
    have hpn : p1 n = p n := i2 n (Nat.le_refl _)
    have i1 : t1 = kItr (kCt1 len d u) n t := i1
    rw [← i1]
    unfold kTg kCt1
    dsimp only
    by_cases q1 : len (n * 0 + (u * 24 + n)) = (-1000000)
    · rw [Nat.mul_zero, Nat.zero_add] at q1
      rw [kIf_t q1, kIf_f (fun z : kTt len d u n => z.1 q1)]
      refine ⟨rfl, fun v hv => i2 v (by omega), fun v hv => ?_⟩
      by_cases z : v = n
      · subst z
        exact ⟨fun g => absurd q1 g.1.1, fun _ => hpn⟩
      · exact i3 v (by omega)
    · rw [Nat.mul_zero, Nat.zero_add] at q1
      rw [kIf_f q1]
      by_cases q2 : d u + len (u * 24 + n) = d n
      · rw [kIf_t q2, kIf_t (show kTt len d u n from ⟨q1, q2⟩)]
        by_cases q3 : p1 n = (-1000000) ∧ h u + 1 = h n
        · rw [kIf_t q3]
          dsimp only
          refine ⟨rfl, fun v hv => by rw [pk_un (by omega)]; exact i2 v (by omega), fun v hv => ?_⟩
          by_cases z : v = n
          · subst z
            rw [pk_us]
            exact ⟨fun _ => rfl, fun g => absurd ⟨⟨q1, q2⟩, hpn ▸ q3.1, q3.2⟩ g⟩
          · rw [pk_un z]; exact i3 v (by omega)
        · rw [kIf_f q3]
          refine ⟨rfl, fun v hv => i2 v (by omega), fun v hv => ?_⟩
          by_cases z : v = n
          · subst z
            exact ⟨fun g => absurd ⟨hpn ▸ g.2.1, g.2.2⟩ q3, fun _ => hpn⟩
          · exact i3 v (by omega)
      · rw [kIf_f q2, kIf_f (fun z : kTt len d u n => q2 z.2)]
        refine ⟨rfl, fun v hv => i2 v (by omega), fun v hv => ?_⟩
        by_cases z : v = n
        · subst z
          exact ⟨fun g => absurd g.1.2 q2, fun _ => hpn⟩
        · exact i3 v (by omega)
theorem kTgU_ok {N : Nat} {len d h : kF} (hN : N ≤ 24) : ∀ n, n ≤ N → (kItr (kTgU N len d h) n (kNo, 0)).2 = kItr (kCt N len d) n 0 ∧ (∀ v, N ≤ v → (kItr (kTgU N len d h) n (kNo, 0)).1 v = (-1000000)) ∧ ∀ v, v < N → kFst (kPq len d h v) n ((kItr (kTgU N len d h) n (kNo, 0)).1 v) := by
  intro n
  induction n with
  | zero => intro _; exact ⟨rfl, fun _ _ => rfl, fun v _ => Or.inl ⟨rfl, fun u hu => absurd hu (Nat.not_lt_zero _)⟩⟩
  | succ n ih =>
    intro hn
    obtain ⟨i1, i2, i3⟩ := ih (by omega)
    rw [kItr_s, kItr_s, ← i1]
    revert i2 i3
    generalize kItr (kTgU N len d h) n (kNo, 0) = st
    obtain ⟨p, t⟩ := st
    intro i2 i3
    unfold kTgU kCt
    dsimp only at i2 i3 ⊢
    by_cases q : d n = (-1000000)
    · rw [kIf_t q, kIf_t q]
      refine ⟨rfl, i2, fun v hv => ?_⟩
      rcases i3 v hv with ⟨a1, a2⟩ | ⟨u, a1, a2, a3, a4⟩
      · refine Or.inl ⟨a1, fun u hu => ?_⟩
        by_cases z : u = n
        · subst z; exact fun g => g.1 q
        · exact a2 u (by omega)
      · exact Or.inr ⟨u, by omega, a2, a3, a4⟩
    · rw [kIf_f q, kIf_f q]
      obtain ⟨j1, j2, j3⟩ := kTg_ok (len := len) (d := d) (h := h) (u := n) p t N
      refine ⟨j1, fun v hv => by rw [j2 v hv]; exact i2 v hv, fun v hv => ?_⟩
      rcases i3 v hv with ⟨a1, a2⟩ | ⟨u, a1, a2, a3, a4⟩
      · by_cases g : kTt len d n v ∧ h n + 1 = h v
        · rw [(j3 v hv).1 ⟨g.1, a1, g.2⟩]
          exact Or.inr ⟨n, by omega, ⟨q, g.1.1, g.1.2, g.2⟩, a2, rfl⟩
        · rw [(j3 v hv).2 (fun z => g ⟨z.1, z.2.2⟩)]
          refine Or.inl ⟨a1, fun u hu => ?_⟩
          by_cases z : u = n
          · subst z; exact fun w => g ⟨⟨w.2.1, w.2.2.1⟩, w.2.2.2⟩
          · exact a2 u (by omega)
      · have hne : ¬ p v = (-1000000) := by
          rw [a4]
          intro z
          have h1 := nI_toInt (n := u) (by omega)
          rw [z, kno_int] at h1
          omega
        rw [(j3 v hv).2 (fun z => hne z.2.1)]
        exact Or.inr ⟨u, by omega, a2, a3, a4⟩
