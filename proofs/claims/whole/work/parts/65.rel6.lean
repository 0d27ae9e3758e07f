/-- behind a count -/
theorem kR_cnt {N K O : Nat} {ar ch : Int32} {len sz bg en ln : kF} {w : kLW} {g : kF × Int32} {a b c : kSo} {T : mT} (e1 : N = T.1.1) (hok : kOkn N len) (hx : kXc len T.1.2.1) (ea : ar = kItr (mArcs T.1.2.1) 576 0) (e3 : K = T.2.2.2.1.1)
    (hhis : rHis K O sz bg en ln T.2.2.2.1.2.1 T.2.2.2.1.2.2.1 T.2.2.2.1.2.2.2 0) (hch : kChain N O sz bg en ln K len) (h0 : sz ((O + K) % 41) = nI 0)
    (hs : ∀ z, z < 3 → (kSel ((N, ar, len), (K, O, sz, bg, en, ln), w, g, (0, ch), a, b, c) z).1 = T.1.2.2 z ∧ kPl N (T.1.2.2 z) ∧ mRow (kSel ((N, ar, len), (K, O, sz, bg, en, ln), w, g, (0, ch), a, b, c) z).2.2.1 T.2.1.1 T.2.1.2.1 T.2.1.2.2.1 T.2.1.2.2.2.1 z ∧ ∃ V0, kEqW (kSel ((N, ar, len), (K, O, sz, bg, en, ln), w, g, (0, ch), a, b, c) z).2.2.1 (kSettle N V0 (T.1.2.2 z)))
    (eib : T.2.2.2.2.2.1 = 0) (e5 : ch = T.2.2.2.2.2.2.1) (hr : g.2 = T.2.2.2.2.2.2.2.1 ∧ ∃ M, M ≤ 24 ∧ g.2 = nI M ∧ ∀ i, i < M → g.1 i = T.2.2.2.2.2.2.2.2 i) :
    kR ((N, ar, len), (K, O, sz, bg, en, ln), w, g, (0, ch), kRec1 N len a, kRec1 N len b, kRec1 N len c) (mCnt T) := by
  have hsrc := kCount_src (S := ((N, ar, len), (K, O, sz, bg, en, ln), w, g, (0, ch), a, b, c)) (T := T) e1 hok hx hs
  have hV : kVn ((N, ar, len), (K, O, sz, bg, en, ln), w, g, (0, ch), kRec1 N len a, kRec1 N len b, kRec1 N len c) = len := kUn_0 h0
  have m1 : (mCnt T).1 = T.1 := by rw [mCnt_eq]
  have m2 : (mCnt T).2.2.2 = T.2.2.2 := by rw [mCnt_eq]
  refine ⟨⟨by rw [m1]; exact e1, hok, by rw [m1]; exact hx, by rw [m1]; exact ea⟩, ⟨by rw [m2]; exact e3, by rw [m2]; exact hhis, by rw [hV]; exact hch⟩, fun z hz => ?_, ⟨by rw [m2]; exact eib.symm, by rw [m2]; exact e5⟩, by rw [m2]; exact hr⟩
  rw [hV]
  have := hsrc z hz
  rcases (show z = 0 ∨ z = 1 ∨ z = 2 by omega) with rfl | rfl | rfl
  · exact this
  · exact this
  · exact this
theorem kSrc_pre {N : Nat} {V : kF} {x : kSo} {y a : Int32} {xd xh xp xt : kF} {z : Nat} (h : rSrc N V x y a xd xh xp xt z) : x.1 = y ∧ kPl N y ∧ mRow x.2.2.1 xd xh xp xt z ∧ ∃ V0, kEqW x.2.2.1 (kSettle N V0 y) := ⟨h.1, h.2.1, h.2.2.2.1, V, h.2.2.2.2⟩
theorem mKeep_eq (T : mT) : mKeep T = (T.1, T.2.1, T.2.2.1, (kKk T.2.2.2.1.1, mKeepM T.2.2.2.1.1 T.2.2.2.1.2.1, (mKeepQ T.2.2.2.1.1 T.2.2.2.1.2.2).1, (mKeepQ T.2.2.2.1.1 T.2.2.2.1.2.2).2), T.2.2.2.2) := by
  obtain ⟨n, x, v, ⟨K, mn, qp, qe⟩, r⟩ := T
  rfl
theorem nI_le0 {q : Nat} (h : q ≤ 30) : nI q ≤ 0 ↔ q = 0 := by
  constructor
  · intro w
    rcases Nat.eq_zero_or_pos q with z | z
    · exact z
    · exact absurd w (nI_nle z (by omega))
  · intro w; rw [w]; decide
theorem kR_end {S : kSt} {T : mT} (h : kR S T) : (fEnd S).1 = (gEnd T).1 ∧ kR (fEnd S).2.2 (gEnd T).2 := by
  have h' := h
  obtain ⟨⟨N, ar, len⟩, ⟨K, O, sz, bg, en, ln⟩, w, g, ⟨ib, ch⟩, a, b, c⟩ := S
  obtain ⟨⟨e1, hok, hx, ea⟩, ⟨e3, ⟨hK, hO, hen, q, h1, h2, h3, h4⟩, hch⟩, hs, ⟨e4, e5⟩, hr⟩ := h
  dsimp only at e1 hok hx ea e3 hK hO hen h1 h2 h3 h4 e4 e5 hr
  unfold fEnd gEnd
  dsimp only
  by_cases z : ib = 0
  · have z' : T.2.2.2.2.2.1 = 0 := by rw [← e4]; exact z
    rw [kIf_t z, kIf_t z']
    exact ⟨rfl, kR_th h'⟩
  · have z' : ¬ T.2.2.2.2.2.1 = 0 := by rw [← e4]; exact z
    have hm : T.2.2.2.1.2.1 T.2.2.2.1.1 = nI q := by rw [← e3]; exact h3 z
    rw [kIf_f z, kIf_f z']
    by_cases q0 : q = 0
    · have c1 : sz ((O + K) % 41) ≤ 0 := by rw [h1]; exact (nI_le0 h4.1).mpr q0
      have c2 : T.2.2.2.1.2.1 T.2.2.2.1.1 ≤ 0 := by rw [hm]; exact (nI_le0 h4.1).mpr q0
      rw [kIf_t c1, kIf_t c2]
      refine ⟨by rw [hm, h1], ?_⟩
      have hV : kVn ((N, ar, len), (K, O, sz, bg, en, ln), w, g, (ib, ch), a, b, c) = len := kUn_0 (by show sz ((O + K) % 41) = nI 0; rw [h1, q0])
      rw [hV] at hch
      exact kR_cnt (T := (T.1, T.2.1, T.2.2.1, T.2.2.2.1, (0, 0, T.2.2.2.2.2.2))) e1 hok hx ea e3 ⟨hK, hO, hen, q, h1, fun _ => q0, fun y => absurd rfl y, h4⟩ hch (by rw [h1, q0]) (fun x hx => kSrc_pre (hs x hx)) rfl e5 hr
    · have c1 : ¬ sz ((O + K) % 41) ≤ 0 := by rw [h1]; exact fun y => q0 ((nI_le0 h4.1).mp y)
      have c2 : ¬ T.2.2.2.1.2.1 T.2.2.2.1.1 ≤ 0 := by rw [hm]; exact fun y => q0 ((nI_le0 h4.1).mp y)
      rw [kIf_f c1, kIf_f c2]
      refine ⟨by rw [hm, h1], ?_⟩
      obtain ⟨k1, k2, k3⟩ := rHis_keep (N := N) (len := len) hK hO hen h1 (h3 z) h4 hok hch
      have ek := mKeep_eq (T.1, T.2.1, T.2.2.1, T.2.2.2.1, (0, 0, T.2.2.2.2.2.2))
      rw [ek]
      dsimp only
      rw [← e3]
      exact kR_cnt (T := (T.1, T.2.1, T.2.2.1, (kKk K, mKeepM K T.2.2.2.1.2.1, (mKeepQ K T.2.2.2.1.2.2).1, (mKeepQ K T.2.2.2.1.2.2).2), (0, 0, T.2.2.2.2.2.2))) e1 hok hx ea rfl k1 k2 k3 (fun x hx => kSrc_pre (hs x hx)) rfl e5 hr
