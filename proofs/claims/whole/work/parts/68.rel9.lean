theorem kR_chg {S : kSt} {T : mT} {i j : Nat} {x : Int32} (h : kR S T) (hi : i < S.1.1) (hj : j < S.1.1) (hx1 : x.toInt ≤ 1000) (hok' : kOkn S.1.1 (upd S.1.2.2 (i * 24 + j) x)) (hf : ¬ kFull S.2.2.2.2.1.1 (S.2.1.2.2.1 ((S.2.1.2.1 + S.2.1.1) % 41))) :
    (kChg S i j x).1 = S.1.2.2 (i * 24 + j) ∧ kR (kChg S i j x).2.2 (mChg T (i * 24 + j) (kTo x)) := by
  have hN := kR_N h
  have hV0 := kR_V0 h
  obtain ⟨⟨N, ar, len⟩, ⟨K, O, sz, bg, en, ln⟩, w, g, ⟨ib, ch⟩, a, b, c⟩ := S
  obtain ⟨⟨N2, xc, sr⟩, X, V, ⟨K2, mn, qp, qe⟩, ⟨th, ib2, ch2, r⟩⟩ := T
  obtain ⟨⟨e1, hok, hx, ea⟩, ⟨e3, ⟨hK, hO, hen, q, h1, h2, h3, h4⟩, hch⟩, hs, ⟨e4, e5⟩, hr⟩ := h
  dsimp only at e1 hok hx ea e3 hK hO hen h1 h2 h3 h4 e4 e5 hr hV0 hi hj hok' hf hN
  subst e1 e3 e4 e5
  have hq30 : q ≤ 30 := h4.1
  have hq : (sz ((O + K) % 41)).toNatClampNeg = q := by rw [h1]; exact nI_clamp (by omega)
  have hqf : q < 30 := by
    by_cases z : ib = 0
    · have := h2 z; omega
    · rcases Nat.lt_or_ge q 30 with y | y
      · exact y
      · exact absurd ⟨z, by rw [h1]; exact nI_nlt (a := q) (b := 30) (by omega) (by omega)⟩ hf
  have hsl : ∀ k, k < K → ¬ (O + k) % 41 = (O + K) % 41 := fun k hk => by omega
  have hxi : xc (i * 24 + j) = kTo (len (i * 24 + j)) := hx i j (by omega) (by omega)
  have hx' := kXc_upd hx (a := i) (b := j) (by omega) x
  have ha' : kArcs ar (len (i * 24 + j)) x = kItr (mArcs (upd xc (i * 24 + j) (kTo x))) 576 0 := by
    rw [ea]; exact (cnt_upd (by omega) (kLen_le hok.1 (by omega) (by omega)) hx1 hxi).symm
  -- the entries as they stand behind the note
  have hen' : ∀ k, k < K → ∃ q2, upd sz ((O + K) % 41) (nI (q + 1)) ((O + k) % 41) = nI q2 ∧ upd mn K (nI (q + 1)) k = nI q2 ∧ rEnt (upd bg ((O + K) % 41 * 30 + q) (nI i)) (upd en ((O + K) % 41 * 30 + q) (nI j)) (upd ln ((O + K) % 41 * 30 + q) (len (i * 24 + j))) (upd qp (K * 30 + q) (nI (i * 24 + j))) (upd qe (K * 30 + q) (xc (i * 24 + j))) ((O + k) % 41) q2 k := by
    intro k hk
    obtain ⟨q2, g1, g2, g3⟩ := hen k hk
    have := hsl k hk
    refine ⟨q2, by rw [pk_un this]; exact g1, by rw [pk_un (by omega)]; exact g2, rEnt_cg g3 (fun r hr => ⟨pk_un (by omega), pk_un (by omega), pk_un (by omega), pk_un (by omega), pk_un (by omega)⟩)⟩
  have h4' : rEnt (upd bg ((O + K) % 41 * 30 + q) (nI i)) (upd en ((O + K) % 41 * 30 + q) (nI j)) (upd ln ((O + K) % 41 * 30 + q) (len (i * 24 + j))) (upd qp (K * 30 + q) (nI (i * 24 + j))) (upd qe (K * 30 + q) (xc (i * 24 + j))) ((O + K) % 41) (q + 1) K := by
    refine ⟨by omega, fun r hr => ?_⟩
    by_cases y : r = q
    · subst y
      refine ⟨i, j, by omega, by omega, ?_, pk_us, pk_us, pk_us, ?_⟩
      · rw [pk_us]; exact kLen_le hok.1 (by omega) (by omega)
      · rw [pk_us, pk_us]; exact hxi
    · rw [pk_un (by omega), pk_un (by omega), pk_un (by omega), pk_un (by omega), pk_un (by omega)]
      exact h4.2 r (by omega)
  have hV : kUn (upd bg ((O + K) % 41 * 30 + q) (nI i)) (upd en ((O + K) % 41 * 30 + q) (nI j)) (upd ln ((O + K) % 41 * 30 + q) (len (i * 24 + j))) ((O + K) % 41) (q + 1) (upd len (i * 24 + j) x) = kUn bg en ln ((O + K) % 41) q len := kUn_push (by omega) (by omega) hqf
  have hq1 : (upd sz ((O + K) % 41) (nI (q + 1)) ((O + K) % 41)).toNatClampNeg = q + 1 := by rw [pk_us]; exact nI_clamp (by omega)
  have hch0 : kChain N O sz bg en ln K (kUn bg en ln ((O + K) % 41) (sz ((O + K) % 41)).toNatClampNeg len) := hch
  rw [hq] at hch0
  have hch' : kChain N O (upd sz ((O + K) % 41) (nI (q + 1))) (upd bg ((O + K) % 41 * 30 + q) (nI i)) (upd en ((O + K) % 41 * 30 + q) (nI j)) (upd ln ((O + K) % 41 * 30 + q) (len (i * 24 + j))) K (kUn (upd bg ((O + K) % 41 * 30 + q) (nI i)) (upd en ((O + K) % 41 * 30 + q) (nI j)) (upd ln ((O + K) % 41 * 30 + q) (len (i * 24 + j))) ((O + K) % 41) (upd sz ((O + K) % 41) (nI (q + 1)) ((O + K) % 41)).toNatClampNeg (upd len (i * 24 + j) x)) := by
    rw [hq1, hV]
    refine kChain_cg _ _ (fun k hk => ?_) hch0
    obtain ⟨q2, g1, g2, g3⟩ := hen k hk
    have := hsl k hk
    exact ⟨pk_un this, by rw [g1, nI_clamp (by have := g3.1; omega)]; exact g3.1, fun r hr => ⟨pk_un (by omega), pk_un (by omega), pk_un (by omega)⟩⟩
  unfold kChg mChg
  dsimp only
  rw [hq]
  by_cases z : ib = 0
  · have q0 : q = 0 := h2 z
    subst q0
    subst z
    rw [kIf_t rfl, kIf_t rfl]
    refine ⟨rfl, ?_⟩
    obtain ⟨k1, k2, k3⟩ := rHis_keep (N := N) (len := upd len (i * 24 + j) x) hK hO hen' pk_us pk_us h4' hok' hch'
    rw [mKeep_eq]
    dsimp only
    exact kR_cnt (T := ((N, upd xc (i * 24 + j) (kTo x), sr), X, V, (kKk K, mKeepM K (upd mn K (nI 1)), (mKeepQ K (upd qp (K * 30) (nI (i * 24 + j)), upd qe (K * 30) (xc (i * 24 + j)))).1, (mKeepQ K (upd qp (K * 30) (nI (i * 24 + j)), upd qe (K * 30) (xc (i * 24 + j)))).2), (th, 0, ch + 1, r))) rfl hok' hx' ha' rfl k1 k2 k3 (fun y hy => kSrc_pre (hs y hy)) rfl rfl hr
  · rw [kIf_f z, kIf_f z]
    have hmq : (mn K).toNatClampNeg = q := by rw [h3 z]; exact nI_clamp (by omega)
    rw [hmq]
    refine ⟨rfl, ⟨rfl, hok', hx', ha'⟩, ⟨rfl, ⟨hK, hO, hen', q + 1, pk_us, fun y => absurd y z, fun _ => pk_us, h4'⟩, hch'⟩, fun y hy => ?_, ⟨rfl, rfl⟩, hr⟩
    have e9 : kVn ((N, kArcs ar (len (i * 24 + j)) x, upd len (i * 24 + j) x), (K, O, upd sz ((O + K) % 41) (nI (q + 1)), upd bg ((O + K) % 41 * 30 + q) (nI i), upd en ((O + K) % 41 * 30 + q) (nI j), upd ln ((O + K) % 41 * 30 + q) (len (i * 24 + j))), w, g, (ib, ch + 1), a, b, c) = kVn ((N, ar, len), (K, O, sz, bg, en, ln), w, g, (ib, ch), a, b, c) := by
      show kUn _ _ _ ((O + K) % 41) (upd sz ((O + K) % 41) (nI (q + 1)) ((O + K) % 41)).toNatClampNeg _ = kUn bg en ln ((O + K) % 41) (sz ((O + K) % 41)).toNatClampNeg len
      rw [hq1, hq]
      exact hV
    rw [e9]
    exact hs y hy
