/-! how many arcs there are; undo -/
theorem kTo_no' {x : Int32} (h : x.toInt ≤ 1000) : kTo x = 1000000 ↔ x = (-1000000) := by
  unfold kTo
  constructor
  · intro w
    by_cases q : x = (-1000000)
    · exact q
    · rw [kIf_f q] at w
      rw [w, kmil] at h
      omega
  · intro w; exact kIf_t w
theorem kLen_le {N : Nat} {len : kF} (hL : kLen N len) {u v : Nat} (hu : u < 24) (hv : v < 24) : (len (u * 24 + v)).toInt ≤ 1000 := by
  rcases hL.2 u v hu hv with g | g
  · rw [g]; decide
  · exact g.2.2.2.2
theorem mArcs_upd {xc : kF} {i : Nat} {y dl : Int32} (hd : kIf (y = 1000000) (0 : Int32) 1 = kIf (xc i = 1000000) (0 : Int32) 1 + dl) : ∀ n t, (n ≤ i → kItr (mArcs (upd xc i y)) n t = kItr (mArcs xc) n t) ∧ (i < n → kItr (mArcs (upd xc i y)) n t = kItr (mArcs xc) n t + dl) := by
  intro n
  induction n with
  | zero => intro t; exact ⟨fun _ => rfl, fun h => absurd h (Nat.not_lt_zero _)⟩
  | succ n ih =>
    intro t
    obtain ⟨i1, i2⟩ := ih t
    have one : ∀ (f : kF) (k : Nat) (x : Int32), mArcs f k x = x + kIf (f k = 1000000) (0 : Int32) 1 := by
      intro f k x
      unfold mArcs
      by_cases q : f k = 1000000
      · rw [kIf_t q, kIf_t q]; simp
      · rw [kIf_f q, kIf_f q]
    rw [kItr_s, kItr_s, one, one]
    refine ⟨fun h => ?_, fun h => ?_⟩
    · rw [pk_un (by omega), i1 (by omega)]
    · by_cases z : i = n
      · subst z
        rw [pk_us, i1 (Nat.le_refl _), hd, ← Int32.add_assoc]
      · rw [pk_un (by omega), i2 (by omega), Int32.add_assoc, Int32.add_comm dl, ← Int32.add_assoc]
theorem cnt_upd {xc : kF} {i : Nat} {had x : Int32} (hi : i < 576) (h1 : had.toInt ≤ 1000) (h2 : x.toInt ≤ 1000) (hx : xc i = kTo had) : kItr (mArcs (upd xc i (kTo x))) 576 0 = kArcs (kItr (mArcs xc) 576 0) had x := by
  unfold kArcs
  by_cases q1 : had = (-1000000)
  · by_cases q2 : x = (-1000000)
    · rw [kIf_f (fun w => w.2 q2), kIf_f (fun w => w.1 q1)]
      rw [(mArcs_upd (dl := 0) (by rw [hx, kIf_t ((kTo_no' h1).mpr q1), kIf_t ((kTo_no' h2).mpr q2)]; rfl) 576 0).2 hi]
      simp
    · rw [kIf_t ⟨q1, q2⟩]
      exact (mArcs_upd (dl := 1) (by rw [hx, kIf_t ((kTo_no' h1).mpr q1), kIf_f (fun w => q2 ((kTo_no' h2).mp w))]; rfl) 576 0).2 hi
  · by_cases q2 : x = (-1000000)
    · rw [kIf_f (fun w => q1 w.1), kIf_t ⟨q1, q2⟩]
      rw [(mArcs_upd (dl := -1) (by rw [hx, kIf_f (fun w => q1 ((kTo_no' h1).mp w)), kIf_t ((kTo_no' h2).mpr q2)]; rfl) 576 0).2 hi]
      exact k_m1 _
    · rw [kIf_f (fun w => q1 w.1), kIf_f (fun w => q2 w.2)]
      rw [(mArcs_upd (dl := 0) (by rw [hx, kIf_f (fun w => q1 ((kTo_no' h1).mp w)), kIf_f (fun w => q2 ((kTo_no' h2).mp w))]; rfl) 576 0).2 hi]
      simp
/-- an undo, change by change -/
theorem kUndo_step {bg en ln qp qe len xc : kF} {sl S i : Nat} {ar : Int32} (he : rEnt bg en ln qp qe sl S i) (hx : kXc len xc) (hb : ∀ u v, u < 24 → v < 24 → (len (u * 24 + v)).toInt ≤ 1000) (ea : ar = kItr (mArcs xc) 576 0) : ∀ n, n ≤ S →
    (kItr (kTb bg en ln sl S) n (ar, len)).2 = kItr (kUl bg en ln sl S) n len ∧ kXc (kItr (kUl bg en ln sl S) n len) (kItr (mUb qp qe i S) n xc) ∧ (∀ u v, u < 24 → v < 24 → ((kItr (kUl bg en ln sl S) n len) (u * 24 + v)).toInt ≤ 1000) ∧ (kItr (kTb bg en ln sl S) n (ar, len)).1 = kItr (mArcs (kItr (mUb qp qe i S) n xc)) 576 0 := by
  intro n
  induction n with
  | zero => intro _; exact ⟨rfl, hx, hb, ea⟩
  | succ n ih =>
    intro hn
    obtain ⟨i1, i2, i3, i4⟩ := ih (by omega)
    rw [kItr_s, kItr_s, kItr_s]
    revert i1 i2 i3 i4
    generalize kItr (kTb bg en ln sl S) n (ar, len) = st
    generalize kItr (kUl bg en ln sl S) n len = l2
    generalize kItr (mUb qp qe i S) n xc = x2
    obtain ⟨ar2, l3⟩ := st
    intro i1 i2 i3 i4
    have i1 : l3 = l2 := i1
    subst i1
    obtain ⟨a, b, k1, k2, kb, k3, k4, k5, k6⟩ := he.2 (S - n - 1) (by omega)
    unfold kTb kUl mUb
    dsimp only at i4 ⊢
    rw [k3, k4, k5, k6, nI_clamp (n := a) (by omega), nI_clamp (n := b) (by omega), nI_clamp (n := a * 24 + b) (by omega)]
    refine ⟨rfl, kXc_upd i2 k2 _, fun u v hu hv => ?_, ?_⟩
    · by_cases z : u * 24 + v = a * 24 + b
      · rw [z, pk_us]; exact kb
      · rw [pk_un z]; exact i3 u v hu hv
    · rw [i4]
      exact (cnt_upd (by omega) (i3 a b k1 k2) kb (i2 a b k1 k2)).symm
theorem kR_undo {S : kSt} {T : mT} (h : kR S T) : (fUndo S).1 = (gUndo T).1 ∧ kR (fUndo S).2.2 (gUndo T).2 := by
  have h' := h
  have hV0 := kR_V0 h
  obtain ⟨⟨N, ar, len⟩, ⟨K, O, sz, bg, en, ln⟩, w, g, ⟨ib, ch⟩, a, b, c⟩ := S
  obtain ⟨⟨N2, xc, sr⟩, X, V, ⟨K2, mn, qp, qe⟩, ⟨th, ib2, r⟩⟩ := T
  obtain ⟨⟨e1, hok, hx, ea⟩, ⟨e3, ⟨hK, hO, hen, q, h1, h2, h3, h4⟩, hch⟩, hs, ⟨e4, e5⟩, hr⟩ := h
  dsimp only at e1 hok hx ea e3 hK hO hen h1 h2 h3 h4 e4 e5 hr hV0
  subst e1 e3 e4
  unfold fUndo gUndo
  dsimp only
  by_cases z : ib = 0
  · rw [kIf_t z, kIf_t z]
    by_cases q0 : nI K = 0
    · rw [kIf_t q0, kIf_t q0]
      exact ⟨rfl, kR_th h'⟩
    · rw [kIf_f q0, kIf_f q0]
      refine ⟨rfl, ?_⟩
      have hK0 : 0 < K := Nat.pos_of_ne_zero (fun y => q0 (by rw [y]; rfl))
      obtain ⟨j, rfl⟩ : ∃ j, K = j + 1 := ⟨K - 1, by omega⟩
      rw [Nat.add_sub_cancel]
      obtain ⟨q2, g1, g2, g3⟩ := hen j (by omega)
      rw [hV0 z] at hch
      have hc2 : kChain N O sz bg en ln j (kUn bg en ln ((O + j) % 41) (sz ((O + j) % 41)).toNatClampNeg len) := hch.2
      have hq : (sz ((O + j) % 41)).toNatClampNeg = q2 := by rw [g1]; exact nI_clamp (by have := g3.1; omega)
      have hq' : (mn j).toNatClampNeg = q2 := by rw [g2]; exact nI_clamp (by have := g3.1; omega)
      rw [hq] at hc2
      obtain ⟨s1, s2, s3, s4⟩ := kUndo_step (ar := ar) g3 hx (fun u v hu hv => kLen_le hok.1 hu hv) ea q2 (Nat.le_refl _)
      have eU : kUnd ((N, ar, len), (j + 1, O, sz, bg, en, ln), w, g, (ib, ch), a, b, c) = kItr (kTb bg en ln ((O + j) % 41) q2) q2 (ar, len) := by
        show kItr (kTb bg en ln ((O + j) % 41) (sz ((O + j) % 41)).toNatClampNeg) (sz ((O + j) % 41)).toNatClampNeg (ar, len) = _
        rw [hq]
      rw [eU, hq', s1, s4]
      have hsl : ∀ i, i < j → ¬ (O + i) % 41 = (O + j) % 41 := fun i hi => by omega
      subst z
      refine kR_cnt (T := ((N, kItr (mUb qp qe j q2) q2 xc, sr), X, V, (j, mn, qp, qe), (0, 0, r))) rfl (kChain_ok hc2) s2 rfl rfl ⟨by omega, hO, fun i hi => ?_, 0, pk_us, fun _ => rfl, fun y => absurd rfl y, by omega, fun r hr => absurd hr (Nat.not_lt_zero _)⟩ (kChain_sz (sz := sz) _ _ (fun i hi => pk_un (hsl i hi)) hc2) pk_us (fun x hx => kSrc_pre (hs x hx)) rfl e5 hr
      obtain ⟨q3, f1, f2, f3⟩ := hen i (by omega)
      exact ⟨q3, by rw [pk_un (hsl i hi)]; exact f1, f2, f3⟩
  · rw [kIf_f z, kIf_f z]
    exact ⟨rfl, kR_th h'⟩
