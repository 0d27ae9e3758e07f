/-! the ways by parents lead back to where they begin -/
theorem kLst_pre {G : Nat → Nat → Option Int} {s v k : Nat} {c : Int} (a : kLst G s v c (k + 1)) : ∃ u x, G u v = some x ∧ kLst G s u (c - x) k := by
  obtain ⟨u, x, h1, h2⟩ := a.1
  refine ⟨u, x, h1, h2, fun g y w => ?_⟩
  have := a.2 (g + 1) (y + x) (kWk_s w h1)
  omega
theorem kPar_ok {N s : Nat} {len : kF} (hL : kLen N len) (hs : s < N) (hR : kNR (kG N len)) {v k : Nat} (hv : v < N) (hd : ¬ (kRel N len s).1 v = (-1000000)) (hk : (kRel N len s).2.1 v = nI (k + 1)) (hk24 : k < 100) : ∃ w, w < N ∧ (kSet N len s).2.2.1 v = nI w ∧ ¬ (kRel N len s).1 w = (-1000000) ∧ (kRel N len s).2.1 w = nI k := by
  have hN24 := hL.1
  rcases kRel_ok hL hs hR v hv with ⟨a1, -⟩ | ⟨-, k1, a2, a3, a4⟩
  · exact absurd a1 hd
  · rw [hk] at a3
    have e : k1 = k + 1 := ((nI_eq (by omega) (by omega)).mp a3).symm
    subst e
    obtain ⟨u, x, h1, h2⟩ := kLst_pre a4
    have hu := (kLen_in u v x h1).1
    obtain ⟨⟨-, -, g3⟩, g4⟩ := kG_some.mp h1
    have hP : kPq len (kRel N len s).1 (kRel N len s).2.1 v u := by
      rcases kRel_ok hL hs hR u hu with ⟨b1, b2, b3⟩ | ⟨b1, k2, b2, b3, b4⟩
      · exact absurd h2.1 (b3 _ _)
      · obtain ⟨c1, c2⟩ := kLst_u b4 h2
        have hau := kRel_abs hL hs hR hu b1
        have hab := kLen_abs hL u v x h1
        refine ⟨b1, g3, ?_, ?_⟩
        · apply Int32.toInt_inj.mp
          rw [kadd (by omega) (by omega)]
          omega
        · rw [b3, c2, hk, nI_1]
    have hf : kFst (kPq len (kRel N len s).1 (kRel N len s).2.1 v) N ((kSet N len s).2.2.1 v) := (kTgU_ok hN24 N (Nat.le_refl N)).2.2 v hv
    rcases hf with ⟨-, b2⟩ | ⟨w, b1, b2, b3, b4⟩
    · exact absurd hP (b2 u hu)
    · refine ⟨w, b1, b4, b2.1, ?_⟩
      rcases kRel_ok hL hs hR w b1 with ⟨c1, -⟩ | ⟨-, k3, c2, c3, -⟩
      · exact absurd c1 b2.1
      · have e2 := b2.2.2.2
        rw [c3, hk, nI_1] at e2
        have := (nI_eq (by omega) (by omega)).mp e2
        rw [c3]
        congr 1
        omega
theorem kPath {N s : Nat} {len : kF} (hL : kLen N len) (hs : s < N) (hR : kNR (kG N len)) {v M : Nat} (hv : v < N) (hd : ¬ (kRel N len s).1 v = (-1000000)) (hM : (kRel N len s).2.1 v = nI M) (hM24 : M < 24) : ∀ q, q ≤ M → ∃ u, u < N ∧ kItr (kBack (kSet N len s).2.2.1) q (nI v) = nI u ∧ ¬ (kRel N len s).1 u = (-1000000) ∧ (kRel N len s).2.1 u = nI (M - q) := by
  have hN24 := hL.1
  intro q
  induction q with
  | zero => intro _; exact ⟨v, hv, rfl, hd, hM⟩
  | succ q ih =>
    intro hq
    obtain ⟨u, h1, h2, h3, h4⟩ := ih (by omega)
    obtain ⟨w, g1, g2, g3, g4⟩ := kPar_ok (k := M - q - 1) hL hs hR h1 h3 (by rw [h4]; congr 1; omega) (by omega)
    refine ⟨w, g1, ?_, g3, by rw [g4]; congr 1⟩
    rw [kItr_s, h2, kBack_f (nI_pos (by omega)), nI_clamp (by omega)]
    exact g2
def kEqW (A B : kLW) : Prop := (∀ v, v < 24 → A.1 v = B.1 v ∧ A.2.1 v = B.2.1 v ∧ A.2.2.1 v = B.2.2.1 v) ∧ A.2.2.2 = B.2.2.2
/-- a place of a source: a node, or none -/
def kPl (N : Nat) (x : Int32) : Prop := x = (-1) ∨ ∃ j, j < N ∧ x = nI j
theorem kSettle_no {N : Nat} {len : kF} : kSettle N len (-1) = (kNo, kNo, kNo, 0) := by
  unfold kSettle; exact kIf_f (fun g => g.1 (by decide))
theorem kSettle_n {N j : Nat} {len : kF} (hN : N ≤ 24) (hj : j < N) : kSettle N len (nI j) = kSet N len j := by
  unfold kSettle; rw [kIf_t (kNode_i hN hj), nI_clamp (by omega)]
/-- what holds of the rows that settle leaves -/
theorem kSet_node {N s : Nat} {len : kF} (hL : kLen N len) (hs : s < N) (hR : kNR (kG N len)) {v : Nat} (hv : v < 24) : ((kSet N len s).1 v = (-1000000) ∧ (kSet N len s).2.1 v = (-1000000)) ∨ (v < N ∧ ¬ (kSet N len s).1 v = (-1000000) ∧ ∃ M, M < N ∧ (kSet N len s).2.1 v = nI M ∧ ∀ q, q ≤ M → ∃ u, u < N ∧ kItr (kBack (kSet N len s).2.2.1) q (nI v) = nI u) := by
  have hN24 := hL.1
  rcases Nat.lt_or_ge v N with g | g
  · rcases kRel_ok hL hs hR v g with ⟨a1, a2, -⟩ | ⟨a1, k, a2, a3, -⟩
    · exact Or.inl ⟨a1, a2⟩
    · refine Or.inr ⟨g, a1, k, a2, a3, fun q hq => ?_⟩
      obtain ⟨u, h1, h2, -, -⟩ := kPath hL hs hR g a1 a3 (by omega) q hq
      exact ⟨u, h1, h2⟩
  · exact Or.inl (kRel_far hs g)
theorem kSet_par {N s : Nat} {len : kF} (hN : N ≤ 24) {v : Nat} (hv : v < 24) : (kSet N len s).2.2.1 v = (-1000000) ∨ ∃ u, u < N ∧ (kSet N len s).2.2.1 v = nI u := by
  rcases Nat.lt_or_ge v N with g | g
  · rcases (kTgU_ok (len := len) (d := (kRel N len s).1) (h := (kRel N len s).2.1) hN N (Nat.le_refl N)).2.2 v g with ⟨a1, -⟩ | ⟨u, a1, -, -, a4⟩
    · exact Or.inl a1
    · exact Or.inr ⟨u, a1, a4⟩
  · exact Or.inl ((kTgU_ok (len := len) (d := (kRel N len s).1) (h := (kRel N len s).2.1) hN N (Nat.le_refl N)).2.1 v g)
theorem kno_neg : ((-1000000) : Int32) < 0 := by decide
theorem kLwOk_of {N : Nat} {len : kF} (hL : kLen N len) (hR : kNR (kG N len)) {x : Int32} (hx : kPl N x) {A : kLW} (hA : kEqW A (kSettle N len x)) : kLwOk A := by
  have hN24 := hL.1
  rcases hx with rfl | ⟨j, hj, rfl⟩
  · rw [kSettle_no] at hA
    refine ⟨fun v hv => Or.inl (by rw [(hA.1 v hv).2.2]; exact kno_neg), fun v hv => Or.inl (hA.1 v hv).1⟩
  · rw [kSettle_n hN24 hj] at hA
    refine ⟨fun v hv => ?_, fun v hv => ?_⟩
    · rw [(hA.1 v hv).2.2]
      rcases kSet_par (len := len) (s := j) hN24 hv with g | ⟨u, g1, g2⟩
      · exact Or.inl (by rw [g]; exact kno_neg)
      · exact Or.inr ⟨u, by omega, g2⟩
    · rw [(hA.1 v hv).1, (hA.1 v hv).2.1]
      rcases kSet_node hL hj hR hv with g | ⟨g1, g2, M, g3, g4, -⟩
      · exact Or.inl g.1
      · exact Or.inr ⟨M, by omega, g4⟩
theorem kEqW_r (A : kLW) : kEqW A A := ⟨fun _ _ => ⟨rfl, rfl, rfl⟩, rfl⟩
