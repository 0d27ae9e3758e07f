/-! the class's rounds find the least ways -/
-- bits (begun from kit/laws/BITS.to-paste)
def bt (x : Int32) (i : Nat) : Bool := x.toBitVec.getLsbD i
theorem b_ext {x y : Int32} (h : ∀ i, i < 32 → bt x i = bt y i) : x = y := Int32.toBitVec_inj.mp (BitVec.eq_of_getLsbD_eq (fun i hi => h i hi))
theorem b_or (x y : Int32) (i : Nat) : bt (x ||| y) i = (bt x i || bt y i) := by unfold bt; rw [Int32.toBitVec_or, BitVec.getLsbD_or]
theorem b_and (x y : Int32) (i : Nat) : bt (x &&& y) i = (bt x i && bt y i) := by unfold bt; rw [Int32.toBitVec_and, BitVec.getLsbD_and]
theorem b_0 (i : Nat) : bt 0 i = false := BitVec.getLsbD_zero
theorem s_l : ∀ n, n < 32 → ((nI n &&& 31).toBitVec.smod 32).toNat = n := by decide +kernel
theorem b_shl (n : Nat) (hn : n < 32) (x : Int32) {i : Nat} (hi : i < 32) : bt (x <<< (nI n &&& 31)) i = (decide (n ≤ i) && bt x (i - n)) := by
  unfold bt
  rw [Int32.toBitVec_shiftLeft]
  show (x.toBitVec <<< ((nI n &&& 31).toBitVec.smod 32).toNat).getLsbD i = _
  rw [s_l n hn, BitVec.getLsbD_shiftLeft]
  rcases Nat.lt_or_ge i n with h | h
  · simp [h, Nat.not_le.mpr h]
  · simp [hi, h, Nat.not_lt.mpr h]
theorem b_sshr (n : Nat) (hn : n < 32) (x : Int32) {i : Nat} (hi : i < 32) : bt (x >>> (nI n &&& 31)) i = if n + i < 32 then bt x (n + i) else bt x 31 := by
  unfold bt
  rw [Int32.toBitVec_shiftRight]
  show (x.toBitVec.sshiftRight ((nI n &&& 31).toBitVec.smod 32).toNat).getLsbD i = _
  rw [s_l n hn, BitVec.getLsbD_sshiftRight, BitVec.msb_eq_getLsbD_last]
  simp [hi]
theorem kbit {x : Int32} {u : Nat} (hu : u < 24) : ((x >>> (nI u &&& 31)) &&& 1 = 0) ↔ bt x u = false := by
  have key : ∀ y : Int32, (y &&& 1 = 0) ↔ bt y 0 = false := by
    intro y
    constructor
    · intro h
      have := b_and y 1 0
      rw [h, b_0] at this
      have e : bt 1 0 = true := by decide
      rw [e, Bool.and_true] at this
      exact this.symm
    · intro h
      apply b_ext
      intro i hi
      rw [b_and, b_0]
      cases i with
      | zero => rw [h]; rfl
      | succ i =>
        have : bt 1 (i + 1) = false := (by decide +kernel : ∀ i, i < 31 → bt 1 (i + 1) = false) i (by omega)
        rw [this, Bool.and_false]
  rw [key, b_sshr u (by omega) x (by omega)]
  simp [show u < 32 by omega]
theorem kbit1 {u w : Nat} (hu : u < 24) (hw : w < 24) : bt ((1 : Int32) <<< (nI u &&& 31)) w = decide (w = u) := by
  rw [b_shl u (by omega) 1 (by omega)]
  by_cases q : w = u
  · subst q; simp; decide
  · by_cases g : u ≤ w
    · have : bt 1 (w - u) = false := by
        have e : w - u = (w - u - 1) + 1 := by omega
        rw [e]
        exact (by decide +kernel : ∀ i, i < 31 → bt 1 (i + 1) = false) _ (by omega)
      rw [this]; simp [q]
    · simp [g, q]
-- numbers
theorem kadd {a b : Int32} (h1 : -2147483648 ≤ a.toInt + b.toInt) (h2 : a.toInt + b.toInt < 2147483648) : (a + b).toInt = a.toInt + b.toInt := by
  rw [Int32.toInt_add]
  exact Int.bmod_eq_of_le (by omega) (by omega)
theorem kno_int : ((-1000000) : Int32).toInt = -1000000 := by decide
/-- the net that a row of lengths is -/
noncomputable def kG (N : Nat) (len : kF) : Nat → Nat → Option Int := fun u v => kIf (u < N ∧ v < N ∧ ¬ len (u * 24 + v) = (-1000000)) (some (len (u * 24 + v)).toInt) none
theorem kG_some {N : Nat} {len : kF} {u v : Nat} {x : Int} : kG N len u v = some x ↔ (u < N ∧ v < N ∧ ¬ len (u * 24 + v) = (-1000000)) ∧ (len (u * 24 + v)).toInt = x := by
  unfold kG
  by_cases q : u < N ∧ v < N ∧ ¬ len (u * 24 + v) = (-1000000)
  · rw [kIf_t q]; constructor
    · intro h; exact ⟨q, Option.some.inj h⟩
    · intro h; rw [h.2]
  · rw [kIf_f q]; constructor
    · intro h; cases h
    · intro h; exact absurd h.1 q
/-- the lengths are lengths, no arc leads to where it begins, nothing beyond the nodes -/
def kLen (N : Nat) (len : kF) : Prop := N ≤ 24 ∧ (∀ u v, u < 24 → v < 24 → len (u * 24 + v) = (-1000000) ∨ (u < N ∧ v < N ∧ ¬ u = v ∧ -1000 ≤ (len (u * 24 + v)).toInt ∧ (len (u * 24 + v)).toInt ≤ 1000))
theorem kLen_abs {N : Nat} {len : kF} (h : kLen N len) : ∀ u v x, kG N len u v = some x → -(1000 : Int) ≤ x ∧ x ≤ 1000 := by
  intro u v x hx
  obtain ⟨⟨h1, h2, h3⟩, rfl⟩ := kG_some.mp hx
  have := h.1
  rcases h.2 u v (by omega) (by omega) with g | g
  · exact absurd g h3
  · exact ⟨g.2.2.2.1, g.2.2.2.2⟩
theorem kLen_in {N : Nat} {len : kF} : kIn N (kG N len) := fun u v x hx => ⟨(kG_some.mp hx).1.1, (kG_some.mp hx).1.2.1⟩
def kJ (G : Nat → Nat → Option Int) (s N B : Nat) (d h : kF) : Prop := ∀ v, v < N → (d v = (-1000000) ∧ h v = (-1000000)) ∨ ∃ k, k ≤ B ∧ h v = nI k ∧ kWk G s k v (d v).toInt
def kDm (d h : kF) (v : Nat) (c : Int) (k : Nat) : Prop := ¬ d v = (-1000000) ∧ ((d v).toInt < c ∨ ((d v).toInt = c ∧ (h v).toInt ≤ k))
theorem kDm_le {d h : kF} {v k k' : Nat} {c c' : Int} (a : kDm d h v c k) (b : c < c' ∨ (c = c' ∧ k ≤ k')) : kDm d h v c' k' := by
  obtain ⟨a1, a2⟩ := a
  exact ⟨a1, by omega⟩
def kExt (N : Nat) (d0 h0 d h : kF) (imp : Int32) : Prop := (∀ w c k, kDm d0 h0 w c k → kDm d h w c k) ∧ (∀ w, w < N → (d w = d0 w ∧ h w = h0 w) ∨ bt imp w = true) ∧ (∀ w, w < N → bt imp w = true → ¬ d w = (-1000000))
theorem kExt_0 (N : Nat) (d h : kF) : kExt N d h d h 0 := ⟨fun _ _ _ a => a, fun _ _ => Or.inl ⟨rfl, rfl⟩, fun w _ a => by rw [b_0] at a; cases a⟩
theorem kDm_self {d h : kF} {w : Nat} (a : ¬ d w = (-1000000)) : kDm d h w (d w).toInt (h w).toInt.toNat := ⟨a, by omega⟩
theorem kExt_t {N : Nat} {d0 h0 d1 h1 d2 h2 : kF} {i j : Int32} (a : kExt N d0 h0 d1 h1 i) (b : kExt N d1 h1 d2 h2 j) : kExt N d0 h0 d2 h2 (i ||| j) := by
  refine ⟨fun w c k q => b.1 w c k (a.1 w c k q), fun w hw => ?_, fun w hw q => ?_⟩
  · rw [b_or]
    rcases a.2.1 w hw with g | g
    · rcases b.2.1 w hw with g2 | g2
      · exact Or.inl ⟨g2.1.trans g.1, g2.2.trans g.2⟩
      · exact Or.inr (by rw [g2, Bool.or_true])
    · exact Or.inr (by rw [g, Bool.true_or])
  · rw [b_or] at q
    cases e : bt j w with
    | true => exact b.2.2 w hw e
    | false =>
      rw [e, Bool.or_false] at q
      exact (b.1 w _ _ (kDm_self (a.2.2 w hw q))).1
theorem kJ_mono {G : Nat → Nat → Option Int} {s N B B' : Nat} {d h : kF} (a : kJ G s N B d h) (hB : B ≤ B') : kJ G s N B' d h := fun v hv => by
  rcases a v hv with g | ⟨k, g1, g2, g3⟩
  · exact Or.inl g
  · exact Or.inr ⟨k, by omega, g2, g3⟩
/-- one arc looked at -/
theorem kFol_ok {N s B u v ku : Nat} {len d0 h0 d h : kF} {imp : Int32} (hL : kLen N len) (hu : u < N) (hv : v < N) (hB : B ≤ 900) (hJ : kJ (kG N len) s N (B + 1) d h) (hE : kExt N d0 h0 d h imp) (hku : ku ≤ B) (hhu : h u = nI ku) (hw : kWk (kG N len) s ku u (d u).toInt) :
    kJ (kG N len) s N (B + 1) (kFol len u v (d, h, imp)).1 (kFol len u v (d, h, imp)).2.1 ∧ kExt N d0 h0 (kFol len u v (d, h, imp)).1 (kFol len u v (d, h, imp)).2.1 (kFol len u v (d, h, imp)).2.2 ∧ (kFol len u v (d, h, imp)).1 u = d u ∧ (kFol len u v (d, h, imp)).2.1 u = h u ∧ (∀ w c k, kDm d h w c k → kDm (kFol len u v (d, h, imp)).1 (kFol len u v (d, h, imp)).2.1 w c k) ∧ (∀ x, kG N len u v = some x → kDm (kFol len u v (d, h, imp)).1 (kFol len u v (d, h, imp)).2.1 v ((d u).toInt + x) (ku + 1)) := by
  by_cases q : len (u * 24 + v) = (-1000000)
  · have e : kFol len u v (d, h, imp) = (d, h, imp) := by unfold kFol; exact kIf_t q
    rw [e]
    exact ⟨hJ, hE, rfl, rfl, fun _ _ _ a => a, fun x hx => absurd q (kG_some.mp hx).1.2.2⟩
  · have hN24 := hL.1
    have hg : kG N len u v = some (len (u * 24 + v)).toInt := kG_some.mpr ⟨⟨hu, hv, q⟩, rfl⟩
    have hx := kLen_abs hL u v _ hg
    have huv : ¬ u = v := by
      rcases hL.2 u v (by omega) (by omega) with g | g
      · exact absurd g q
      · exact g.2.2.1
    have hab := kWk_abs (M := 1000) (kLen_abs hL) ku u _ hw
    have hsum : (d u + len (u * 24 + v)).toInt = (d u).toInt + (len (u * 24 + v)).toInt := kadd (by omega) (by omega)
    have hk1 : h u + 1 = nI (ku + 1) := by rw [hhu]; exact nI_1 ku
    have hkt : (h u + 1).toInt = ((ku + 1 : Nat) : Int) := by rw [hk1]; exact nI_toInt (by omega)
    have hwv := kWk_s hw hg
    by_cases b : kBet d h v (d u + len (u * 24 + v)) (h u + 1)
    · have e : kFol len u v (d, h, imp) = (upd d v (d u + len (u * 24 + v)), upd h v (h u + 1), imp ||| ((1 : Int32) <<< (nI v &&& 31))) := by
        unfold kFol
        rw [kIf_f q]
        exact kIf_t b
      rw [e]
      dsimp only
      generalize hX : d u + len (u * 24 + v) = X at hsum b ⊢
      generalize hY : h u + 1 = Y at hk1 hkt b ⊢
      have hXn : ¬ X = (-1000000) := by
        intro z
        rw [z, kno_int] at hsum
        omega
      have hm : ∀ w c k, kDm d h w c k → kDm (upd d v X) (upd h v Y) w c k := by
        intro w c k a
        by_cases z : w = v
        · subst z
          obtain ⟨a1, a2⟩ := a
          unfold kDm
          rw [pk_us, pk_us]
          refine ⟨hXn, ?_⟩
          rcases b with b | b | ⟨b1, b2⟩
          · exact absurd b a1
          · have := Int32.lt_iff_toInt_lt.mp b
            omega
          · have := Int32.lt_iff_toInt_lt.mp b2
            rw [b1]
            omega
        · unfold kDm at a ⊢
          rw [pk_un z, pk_un z]
          exact a
      refine ⟨fun w hw' => ?_, ⟨fun w c k a => hm w c k (hE.1 w c k a), fun w hw' => ?_, fun w hw' a => ?_⟩, pk_un huv, pk_un huv, hm, fun x hx' => ?_⟩
      · by_cases z : w = v
        · subst z
          refine Or.inr ⟨ku + 1, by omega, ?_, ?_⟩
          · rw [pk_us]; exact hk1
          · rw [pk_us, hsum]; exact hwv
        · rw [pk_un z, pk_un z]
          exact hJ w hw'
      · by_cases z : w = v
        · subst z
          refine Or.inr ?_
          rw [b_or, kbit1 (by omega) (by omega)]
          simp
        · rw [pk_un z, pk_un z, b_or]
          rcases hE.2.1 w hw' with g | g
          · exact Or.inl g
          · exact Or.inr (by rw [g, Bool.true_or])
      · by_cases z : w = v
        · subst z
          rw [pk_us]; exact hXn
        · rw [b_or, kbit1 (by omega) (by omega)] at a
          rw [pk_un z]
          exact hE.2.2 w hw' (by simpa [z] using a)
      · have ex : (len (u * 24 + v)).toInt = x := Option.some.inj (hg.symm.trans hx')
        unfold kDm
        rw [pk_us, pk_us]
        exact ⟨hXn, Or.inr ⟨by rw [hsum, ex], by omega⟩⟩
    · have e : kFol len u v (d, h, imp) = (d, h, imp) := by
        unfold kFol
        rw [kIf_f q]
        exact kIf_f b
      rw [e]
      dsimp only
      refine ⟨hJ, hE, rfl, rfl, fun _ _ _ a => a, fun x hx' => ?_⟩
      have ex : (len (u * 24 + v)).toInt = x := Option.some.inj (hg.symm.trans hx')
      refine ⟨fun z => b (Or.inl z), ?_⟩
      have h1 : ¬ (d u + len (u * 24 + v)).toInt < (d v).toInt := fun z => b (Or.inr (Or.inl (Int32.lt_iff_toInt_lt.mpr z)))
      rcases Int.lt_or_le (d v).toInt ((d u).toInt + x) with g | g
      · exact Or.inl g
      · have h2 : d u + len (u * 24 + v) = d v := Int32.toInt_inj.mp (by omega)
        have h3 : ¬ (h u + 1).toInt < (h v).toInt := fun z => b (Or.inr (Or.inr ⟨h2, Int32.lt_iff_toInt_lt.mpr z⟩))
        exact Or.inr ⟨by omega, by omega⟩
/-- all arcs of a node looked at -/
theorem kFolA_ok {N s B u ku : Nat} {len d h : kF} (hL : kLen N len) (hu : u < N) (hB : B ≤ 900) (hJ : kJ (kG N len) s N B d h) (hku : ku ≤ B) (hhu : h u = nI ku) (hw : kWk (kG N len) s ku u (d u).toInt) :
    kJ (kG N len) s N (B + 1) (kFolA N len u d h).1 (kFolA N len u d h).2.1 ∧ kExt N d h (kFolA N len u d h).1 (kFolA N len u d h).2.1 (kFolA N len u d h).2.2 ∧ (∀ v x, kG N len u v = some x → kDm (kFolA N len u d h).1 (kFolA N len u d h).2.1 v ((d u).toInt + x) (ku + 1)) := by
  have key : ∀ n, n ≤ N → kJ (kG N len) s N (B + 1) (kItr (kFol len u) n (d, h, 0)).1 (kItr (kFol len u) n (d, h, 0)).2.1 ∧ kExt N d h (kItr (kFol len u) n (d, h, 0)).1 (kItr (kFol len u) n (d, h, 0)).2.1 (kItr (kFol len u) n (d, h, 0)).2.2 ∧ (kItr (kFol len u) n (d, h, 0)).1 u = d u ∧ (kItr (kFol len u) n (d, h, 0)).2.1 u = h u ∧ (∀ v x, v < n → kG N len u v = some x → kDm (kItr (kFol len u) n (d, h, 0)).1 (kItr (kFol len u) n (d, h, 0)).2.1 v ((d u).toInt + x) (ku + 1)) := by
    intro n
    induction n with
    | zero => intro _; exact ⟨kJ_mono hJ (by omega), kExt_0 N d h, rfl, rfl, fun v x hv => absurd hv (Nat.not_lt_zero _)⟩
    | succ n ih =>
      intro hn
      obtain ⟨i1, i2, i3, i4, i5⟩ := ih (by omega)
      rw [kItr_s]
      revert i1 i2 i3 i4 i5
      generalize kItr (kFol len u) n (d, h, 0) = st
      obtain ⟨d1, h1, imp⟩ := st
      intro i1 i2 i3 i4 i5
      have i3 : d1 u = d u := i3
      have i4 : h1 u = h u := i4
      have hw' : kWk (kG N len) s ku u (d1 u).toInt := by rw [i3]; exact hw
      obtain ⟨g1, g2, g3, g4, g5, g6⟩ := kFol_ok (v := n) hL hu (by omega) hB i1 i2 hku (i4.trans hhu) hw'
      refine ⟨g1, g2, g3.trans i3, g4.trans i4, fun v x hv hx => ?_⟩
      by_cases z : v = n
      · subst z
        have := g6 x hx
        dsimp only at this
        rw [i3] at this
        exact this
      · exact g5 _ _ _ (i5 v x (by omega) hx)
  obtain ⟨k1, k2, -, -, k5⟩ := key N (Nat.le_refl N)
  exact ⟨k1, k2, fun v x hx => k5 v x (kLen_in u v x hx).2 hx⟩
/-- a round -/
theorem kRnd1_ok {N s B : Nat} {len d0 h0 : kF} {go : Int32} (hL : kLen N len) (hB : B + N ≤ 900) (hJ : kJ (kG N len) s N B d0 h0) (hgo : ∀ w, w < N → bt go w = true → ¬ d0 w = (-1000000)) :
    ∀ n, n ≤ N → kJ (kG N len) s N (B + n) (kItr (kRnd1 N len go) n (d0, h0, 0)).1 (kItr (kRnd1 N len go) n (d0, h0, 0)).2.1 ∧ kExt N d0 h0 (kItr (kRnd1 N len go) n (d0, h0, 0)).1 (kItr (kRnd1 N len go) n (d0, h0, 0)).2.1 (kItr (kRnd1 N len go) n (d0, h0, 0)).2.2 ∧ (∀ w v x, w < n → bt go w = true → kG N len w v = some x → kDm (kItr (kRnd1 N len go) n (d0, h0, 0)).1 (kItr (kRnd1 N len go) n (d0, h0, 0)).2.1 v ((d0 w).toInt + x) ((h0 w).toInt.toNat + 1)) := by
  intro n
  induction n with
  | zero => intro _; exact ⟨hJ, kExt_0 N d0 h0, fun w v x hw => absurd hw (Nat.not_lt_zero _)⟩
  | succ n ih =>
    intro hn
    have hN24 := hL.1
    obtain ⟨i1, i2, i3⟩ := ih (by omega)
    rw [kItr_s]
    revert i1 i2 i3
    generalize kItr (kRnd1 N len go) n (d0, h0, 0) = st
    obtain ⟨d1, h1, imp⟩ := st
    intro i1 i2 i3
    by_cases q : (go >>> (nI n &&& 31)) &&& 1 = 0
    · have e : kRnd1 N len go n (d1, h1, imp) = (d1, h1, imp) := by unfold kRnd1; exact kIf_t q
      rw [e]
      refine ⟨kJ_mono i1 (by omega), i2, fun w v x hw hb hx => ?_⟩
      by_cases z : w = n
      · subst z
        rw [(kbit (by omega)).mp q] at hb
        cases hb
      · exact i3 w v x (by omega) hb hx
    · have e : kRnd1 N len go n (d1, h1, imp) = ((kFolA N len n d1 h1).1, (kFolA N len n d1 h1).2.1, imp ||| (kFolA N len n d1 h1).2.2) := by unfold kRnd1; exact kIf_f q
      rw [e]
      have hbn : bt go n = true := by
        cases z : bt go n with
        | true => rfl
        | false => exact absurd ((kbit (by omega)).mpr z) q
      have hd0 := hgo n (by omega) hbn
      have hdm := i2.1 n _ _ (kDm_self (h := h0) hd0)
      rcases i1 n (by omega) with g | ⟨ku, g1, g2, g3⟩
      · exact absurd g.1 hdm.1
      · obtain ⟨f1, f2, f3⟩ := kFolA_ok (u := n) hL (by omega) (by omega) i1 g1 g2 g3
        refine ⟨f1, kExt_t i2 f2, fun w v x hw hb hx => ?_⟩
        by_cases z : w = n
        · subst z
          refine kDm_le (f3 v x hx) ?_
          have h2 := hdm.2
          have h3 : (h1 w).toInt = (ku : Int) := by
            have g2 : h1 w = nI ku := g2
            rw [g2]; exact nI_toInt (by omega)
          have h2 : (d1 w).toInt < (d0 w).toInt ∨ ((d1 w).toInt = (d0 w).toInt ∧ (h1 w).toInt ≤ (((h0 w).toInt.toNat : Nat) : Int)) := h2
          show (d1 w).toInt + x < (d0 w).toInt + x ∨ ((d1 w).toInt + x = (d0 w).toInt + x ∧ ku + 1 ≤ (h0 w).toInt.toNat + 1)
          omega
        · exact f2.1 _ _ _ (i3 w v x (by omega) hb hx)
def kInv (N : Nat) (len : kF) (s r : Nat) (st : kF × kF × Int32) : Prop := kJ (kG N len) s N (r * N) st.1 st.2.1 ∧ (∀ w, w < N → bt st.2.2 w = true → ¬ st.1 w = (-1000000)) ∧ (∀ u v x, kG N len u v = some x → bt st.2.2 u = false → ¬ st.1 u = (-1000000) → kDm st.1 st.2.1 v ((st.1 u).toInt + x) ((st.2.1 u).toInt.toNat + 1)) ∧ (∀ v k c, kWk (kG N len) s k v c → k ≤ r → kDm st.1 st.2.1 v c k)
theorem kInv_0 {N s : Nat} {len : kF} (hL : kLen N len) (hs : s < N) : kInv N len s 0 (upd kNo s 0, upd kNo s 0, (1 : Int32) <<< (nI s &&& 31)) := by
  have hN24 := hL.1
  refine ⟨fun v hv => ?_, fun w hw a => ?_, fun u v x hx a b => ?_, fun v k c w hk => ?_⟩
  · by_cases z : v = s
    · subst z
      refine Or.inr ⟨0, by omega, ?_, ?_⟩
      · show upd kNo v 0 v = nI 0
        rw [pk_us]; rfl
      · show kWk _ _ 0 v (upd kNo v 0 v).toInt
        rw [pk_us]
        exact ⟨rfl, rfl⟩
    · refine Or.inl ⟨?_, ?_⟩
      · show upd kNo s 0 v = _
        rw [pk_un z]; rfl
      · show upd kNo s 0 v = _
        rw [pk_un z]; rfl
  · rw [show (upd kNo s 0, upd kNo s 0, (1 : Int32) <<< (nI s &&& 31)).2.2 = (1 : Int32) <<< (nI s &&& 31) from rfl, kbit1 (by omega) (by omega)] at a
    have z : w = s := by simpa using a
    subst z
    show ¬ upd kNo w 0 w = _
    rw [pk_us]; decide
  · exfalso
    have hu := (kLen_in u v x hx).1
    rw [show (upd kNo s 0, upd kNo s 0, (1 : Int32) <<< (nI s &&& 31)).2.2 = (1 : Int32) <<< (nI s &&& 31) from rfl, kbit1 (by omega) (by omega)] at a
    have z : ¬ u = s := by simpa using a
    apply b
    show upd kNo s 0 u = _
    rw [pk_un z]; rfl
  · have hk0 : k = 0 := by omega
    subst hk0
    obtain ⟨rfl, rfl⟩ := w
    refine ⟨?_, Or.inr ⟨?_, ?_⟩⟩
    · show ¬ upd kNo v 0 v = _
      rw [pk_us]; decide
    · show (upd kNo v 0 v).toInt = 0
      rw [pk_us]; rfl
    · show (upd kNo v 0 v).toInt ≤ 0
      rw [pk_us]; decide
/-- where nothing is left to look at, no walk is better -/
theorem kAll {N s : Nat} {len d h : kF} (hL : kLen N len) (hJ : ∀ v, v < N → ¬ d v = (-1000000) → ∃ k, k < 1000000 ∧ h v = nI k) (h0 : kDm d h s 0 0) (hr : ∀ u v x, kG N len u v = some x → ¬ d u = (-1000000) → kDm d h v ((d u).toInt + x) ((h u).toInt.toNat + 1)) : ∀ k v c, kWk (kG N len) s k v c → kDm d h v c k := by
  intro k
  induction k with
  | zero =>
    intro v c w
    obtain ⟨rfl, rfl⟩ := w
    exact h0
  | succ k ih =>
    intro v c w
    obtain ⟨u, x, a, w2⟩ := w
    have h1 := ih u _ w2
    have hu := (kLen_in u v x a).1
    obtain ⟨k2, hk2, e⟩ := hJ u hu h1.1
    refine kDm_le (hr u v x a h1.1) ?_
    have h2 := h1.2
    have e2 : (h u).toInt = (k2 : Int) := by rw [e]; exact nI_toInt (by omega)
    omega
theorem kRnd_ok {N s r : Nat} {len : kF} {st : kF × kF × Int32} (hL : kLen N len) (hs : s < N) (hr : r < 24) (hI : kInv N len s r st) (j : Nat) : kInv N len s (r + 1) (kRnd N len j st) := by
  have hN24 := hL.1
  have hrN : r * N ≤ 23 * 24 := Nat.mul_le_mul (by omega) hN24
  have hrN2 : (r + 1) * N = r * N + N := by rw [Nat.add_mul, Nat.one_mul]
  obtain ⟨d0, h0, go⟩ := st
  obtain ⟨i1, i2, i3, i4⟩ := hI
  by_cases q : go = 0
  · have e : kRnd N len j (d0, h0, go) = (d0, h0, go) := by unfold kRnd; exact kIf_t q
    rw [e]
    refine ⟨kJ_mono i1 (by omega), i2, i3, fun v k c w hk => ?_⟩
    refine kAll (s := s) hL (fun v hv hd => ?_) (i4 s 0 0 (kWk_0 _ _) (by omega)) (fun u v x hx hd => i3 u v x hx (by show bt go u = false; rw [q, b_0]) hd) k v c w
    rcases i1 v hv with g | ⟨k, g1, g2, -⟩
    · exact absurd g.1 hd
    · exact ⟨k, by omega, g2⟩
  · have e : kRnd N len j (d0, h0, go) = kItr (kRnd1 N len go) N (d0, h0, 0) := by unfold kRnd; exact kIf_f q
    rw [e]
    obtain ⟨g1, g2, g3⟩ := kRnd1_ok (B := r * N) hL (by omega) i1 i2 N (Nat.le_refl N)
    revert g1 g2 g3
    generalize kItr (kRnd1 N len go) N (d0, h0, 0) = st
    obtain ⟨d, h, imp⟩ := st
    intro g1 g2 g3
    refine ⟨by rw [hrN2]; exact g1, g2.2.2, fun u v x hx hb hd => ?_, fun v k c w hk => ?_⟩
    · have hu := (kLen_in u v x hx).1
      rcases g2.2.1 u hu with ⟨z1, z2⟩ | z
      · have z1 : d u = d0 u := z1
        have z2 : h u = h0 u := z2
        show kDm d h v ((d u).toInt + x) ((h u).toInt.toNat + 1)
        rw [z1, z2]
        cases hg : bt go u with
        | true => exact g3 u v x hu hg hx
        | false => exact g2.1 _ _ _ (i3 u v x hx hg (by show ¬ d0 u = _; rw [← z1]; exact hd))
      · rw [show bt (d, h, imp).2.2 u = bt imp u from rfl] at hb
        rw [show bt (d, h, imp).2.2 u = bt imp u from rfl, hb] at z
        cases z
    · cases k with
      | zero => exact g2.1 _ _ _ (i4 v 0 c w (by omega))
      | succ k =>
        obtain ⟨u, x, hx, w2⟩ := w
        have hu := (kLen_in u v x hx).1
        have h1 := i4 u k _ w2 (by omega)
        have h2 := h1.2
        rcases i1 u hu with g | ⟨k2, a1, a2, -⟩
        · exact absurd g.1 h1.1
        · have a2 : h0 u = nI k2 := a2
          have e2 : (h0 u).toInt = (k2 : Int) := by rw [a2]; exact nI_toInt (by omega)
          have h2 : (d0 u).toInt < c - x ∨ ((d0 u).toInt = c - x ∧ (h0 u).toInt ≤ (k : Int)) := h2
          have key : kDm d h v ((d0 u).toInt + x) ((h0 u).toInt.toNat + 1) := by
            cases hg : bt go u with
            | true => exact g3 u v x hu hg hx
            | false => exact g2.1 _ _ _ (i3 u v x hx hg h1.1)
          refine kDm_le key ?_
          omega
/-- what the rounds leave: of each node the least way, or that there is none -/
theorem kRel_ok {N s : Nat} {len : kF} (hL : kLen N len) (hs : s < N) (hR : kNR (kG N len)) : ∀ v, v < N → ((kRel N len s).1 v = (-1000000) ∧ (kRel N len s).2.1 v = (-1000000) ∧ ∀ k c, ¬ kWk (kG N len) s k v c) ∨ (¬ (kRel N len s).1 v = (-1000000) ∧ ∃ k, k < N ∧ (kRel N len s).2.1 v = nI k ∧ kLst (kG N len) s v ((kRel N len s).1 v).toInt k) := by
  have hN24 := hL.1
  have key : ∀ n, n ≤ N → kInv N len s n (kItr (kRnd N len) n (upd kNo s 0, upd kNo s 0, (1 : Int32) <<< (nI s &&& 31))) := by
    intro n
    induction n with
    | zero => intro _; exact kInv_0 hL hs
    | succ n ih => intro hn; rw [kItr_s]; exact kRnd_ok hL hs (by omega) (ih (by omega)) n
  obtain ⟨i1, -, -, i4⟩ := key N (Nat.le_refl N)
  have e : kItr (kRnd N len) N (upd kNo s 0, upd kNo s 0, (1 : Int32) <<< (nI s &&& 31)) = kRel N len s := rfl
  rw [e] at i1 i4
  have hNN : N * N ≤ 24 * 24 := Nat.mul_le_mul hN24 hN24
  have dom : ∀ v k c, kWk (kG N len) s k v c → kDm (kRel N len s).1 (kRel N len s).2.1 v c k := by
    intro v k c w
    obtain ⟨k2, x, b1, b2, b3, b4⟩ := kShort kLen_in hs hR k k v c (Nat.le_refl _) w
    refine kDm_le (i4 v k2 x b4 (by omega)) ?_
    omega
  intro v hv
  rcases i1 v hv with g | ⟨k, g1, g2, g3⟩
  · refine Or.inl ⟨g.1, g.2, fun k c w => (dom v k c w).1 g.1⟩
  · have hd : ¬ (kRel N len s).1 v = (-1000000) := by
      have := (dom v k _ g3).1
      exact this
    have hk : ((kRel N len s).2.1 v).toInt = (k : Int) := by rw [g2]; exact nI_toInt (by omega)
    have hl : kLst (kG N len) s v ((kRel N len s).1 v).toInt k := ⟨g3, fun h x w => by
      have := (dom v h x w).2
      rw [hk] at this
      omega⟩
    exact Or.inr ⟨hd, k, kLst_lt kLen_in hs hR hl, g2, hl⟩
