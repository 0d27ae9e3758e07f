/-! keeping the open entry -/
theorem kChain_sz {N O : Nat} {sz sz' bg en ln : kF} : ∀ (i : Nat) (len : kF), (∀ j, j < i → sz' ((O + j) % 41) = sz ((O + j) % 41)) → kChain N O sz bg en ln i len → kChain N O sz' bg en ln i len := by
  intro i
  induction i with
  | zero => intro len _ h; exact h
  | succ i ih =>
    intro len hs h
    refine ⟨h.1, ?_⟩
    rw [hs i (by omega)]
    exact ih _ (fun j hj => hs j (by omega)) h.2
theorem kChain_sh {N O : Nat} {sz bg en ln : kF} : ∀ (i : Nat) (len : kF), kChain N O sz bg en ln (i + 1) len → kChain N ((O + 1) % 41) sz bg en ln i len := by
  intro i
  induction i with
  | zero => intro len h; exact h.1
  | succ i ih =>
    intro len h
    refine ⟨h.1, ?_⟩
    have e : ((O + 1) % 41 + i) % 41 = (O + (i + 1)) % 41 := by omega
    rw [e]
    exact ih _ h.2
theorem mKm_ok (f : kF) : ∀ n, (∀ i, i < n → kItr mKm n f i = f (i + 1)) ∧ ∀ i, n ≤ i → kItr mKm n f i = f i := by
  intro n
  induction n with
  | zero => exact ⟨fun i hi => absurd hi (Nat.not_lt_zero _), fun _ _ => rfl⟩
  | succ n ih =>
    obtain ⟨i1, i2⟩ := ih
    rw [kItr_s]
    revert i1 i2
    generalize kItr mKm n f = g
    intro i1 i2
    unfold mKm
    refine ⟨fun i hi => ?_, fun i hi => by rw [pk_un (by omega)]; exact i2 i (by omega)⟩
    by_cases z : i = n
    · subst z; rw [pk_us]; exact i2 (i + 1) (by omega)
    · rw [pk_un z]; exact i1 i (by omega)
theorem mKq_ok (f : kF × kF) : ∀ n, (∀ i, i < n → (kItr mKq n f).1 i = f.1 (i + 30) ∧ (kItr mKq n f).2 i = f.2 (i + 30)) ∧ ∀ i, n ≤ i → (kItr mKq n f).1 i = f.1 i ∧ (kItr mKq n f).2 i = f.2 i := by
  intro n
  induction n with
  | zero => exact ⟨fun i hi => absurd hi (Nat.not_lt_zero _), fun _ _ => ⟨rfl, rfl⟩⟩
  | succ n ih =>
    obtain ⟨i1, i2⟩ := ih
    rw [kItr_s]
    revert i1 i2
    generalize kItr mKq n f = g
    intro i1 i2
    unfold mKq
    dsimp only
    refine ⟨fun i hi => ?_, fun i hi => by rw [pk_un (by omega), pk_un (by omega)]; exact i2 i (by omega)⟩
    by_cases z : i = n
    · subst z; rw [pk_us, pk_us]; exact i2 (i + 30) (by omega)
    · rw [pk_un z, pk_un z]; exact i1 i (by omega)
/-- the open entry, with q changes, is kept: both sides -/
theorem rHis_keep {N K O q : Nat} {sz bg en ln mn qp qe len : kF} (hK : K ≤ 40) (hO : O < 41) (hen : ∀ i, i < K → ∃ q, sz ((O + i) % 41) = nI q ∧ mn i = nI q ∧ rEnt bg en ln qp qe ((O + i) % 41) q i)
    (h1 : sz ((O + K) % 41) = nI q) (h3 : mn K = nI q) (h4 : rEnt bg en ln qp qe ((O + K) % 41) q K) (hok : kOkn N len) (hch : kChain N O sz bg en ln K (kUn bg en ln ((O + K) % 41) (sz ((O + K) % 41)).toNatClampNeg len)) :
    rHis (kKk K) (kKo K O) (upd sz ((kKo K O + kKk K) % 41) 0) bg en ln (mKeepM K mn) (mKeepQ K (qp, qe)).1 (mKeepQ K (qp, qe)).2 0 ∧ kChain N (kKo K O) (upd sz ((kKo K O + kKk K) % 41) 0) bg en ln (kKk K) len ∧ upd sz ((kKo K O + kKk K) % 41) 0 ((kKo K O + kKk K) % 41) = nI 0 := by
  have hall : ∀ i, i < K + 1 → ∃ q, sz ((O + i) % 41) = nI q ∧ mn i = nI q ∧ rEnt bg en ln qp qe ((O + i) % 41) q i := by
    intro i hi
    by_cases z : i = K
    · subst z; exact ⟨q, h1, h3, h4⟩
    · exact hen i (by omega)
  have hc1 : kChain N O sz bg en ln (K + 1) len := ⟨hok, hch⟩
  rcases Nat.lt_or_ge K 40 with g | g
  · have e1 : kKk K = K + 1 := if_pos g
    have e2 : kKo K O = O := if_pos g
    have e3 : mKeepM K mn = mn := if_pos g
    have e4 : mKeepQ K (qp, qe) = (qp, qe) := if_pos g
    rw [e1, e2, e3, e4]
    refine ⟨⟨by omega, hO, fun i hi => ?_, 0, pk_us, fun _ => rfl, fun z => absurd rfl z, by omega, fun r hr => absurd hr (Nat.not_lt_zero _)⟩, ?_, pk_us⟩
    · obtain ⟨q2, a1, a2, a3⟩ := hall i hi
      exact ⟨q2, by rw [pk_un (by omega)]; exact a1, a2, a3⟩
    · exact kChain_sz (sz := sz) _ _ (fun j hj => pk_un (by omega)) hc1
  · have hK40 : K = 40 := by omega
    subst hK40
    have e1 : kKk 40 = 40 := by decide
    have e2 : kKo 40 O = (O + 1) % 41 := if_neg (by omega)
    have e3 : mKeepM 40 mn = kItr mKm 40 mn := if_neg (by omega)
    have e4 : mKeepQ 40 (qp, qe) = kItr mKq 1200 (qp, qe) := if_neg (by omega)
    rw [e1, e2, e3, e4]
    have hsl : ∀ j, j < 40 → ¬ ((O + 1) % 41 + j) % 41 = ((O + 1) % 41 + 40) % 41 := fun j hj => by omega
    refine ⟨⟨by omega, by omega, fun i hi => ?_, 0, pk_us, fun _ => rfl, fun z => absurd rfl z, by omega, fun r hr => absurd hr (Nat.not_lt_zero _)⟩, ?_, pk_us⟩
    · obtain ⟨q2, a1, a2, a3, a4⟩ := hall (i + 1) (by omega)
      have es : ((O + 1) % 41 + i) % 41 = (O + (i + 1)) % 41 := by omega
      refine ⟨q2, by rw [pk_un (hsl i hi), es]; exact a1, by rw [(mKm_ok mn 40).1 i hi]; exact a2, a3, fun r hr => ?_⟩
      obtain ⟨a, b, k1, k2, kb, k3, k4, k5, k6⟩ := a4 r hr
      have ei : i * 30 + r + 30 = (i + 1) * 30 + r := by omega
      refine ⟨a, b, k1, k2, by rw [es]; exact kb, by rw [es]; exact k3, by rw [es]; exact k4, ?_, ?_⟩
      · rw [((mKq_ok (qp, qe) 1200).1 (i * 30 + r) (by omega)).1, ei]; exact k5
      · rw [((mKq_ok (qp, qe) 1200).1 (i * 30 + r) (by omega)).2, ei, es]; exact k6
    · exact kChain_sz (sz := sz) _ _ (fun j hj => pk_un (hsl j hj)) (kChain_sh _ _ hc1)
