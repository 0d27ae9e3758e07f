def kQ3 (a b c : Nat) : Nat → Option Nat := fun i => match i with
  | 0 => some a
  | 1 => some b
  | 2 => some c
  | _ => none
abbrev kSo : Type := Int32 × Int32 × kLW × kLW
abbrev kSt : Type := (Nat × Int32 × kF) × (Nat × Nat × kF × kF × kF × kF) × kLW × (kF × Int32) × (Int32 × Int32) × kSo × kSo × kSo
/-- the cells of the class, by the roles that they have -/
def wKP (τ : Nat → ClassId) (ad : Nat → Nat) (S : kSt) : va_W := match S with
  | ((N, ar, len), (K, O, sz, bg, en, ln), (wd, wh, wp, wt), (rg, rs), (ib, ch), (pl0, af0, (td0, th0, tp0, tt0), (sd0, sh0, sp0, st0)), (pl1, af1, (td1, th1, tp1, tt1), (sd1, sh1, sp1, st1)), (pl2, af2, (td2, th2, tp2, tt2), (sd2, sh2, sp2, st2))) => [(ad 0, .inr (4, [.ref (ad 1), .ref (ad 3), .ref (ad 8), .ref (ad 9), .ref (ad 13), .int rs, .int ib, .int ch])), (ad 1, .inr (2, [.int (nI N), .int ar, .ref (ad 2)])), (ad 2, .inl (τ 0, 576, .inl len)), (ad 3, .inr (0, [.int (nI K), .int (nI O), .ref (ad 4), .ref (ad 5), .ref (ad 6), .ref (ad 7)])), (ad 4, .inl (τ 0, 41, .inl sz)), (ad 5, .inl (τ 0, 1230, .inl bg)), (ad 6, .inl (τ 0, 1230, .inl en)), (ad 7, .inl (τ 0, 1230, .inl ln)), (ad 8, .inl (τ 1, 3, .inr (.inr (.inr (.inr (kQ3 (ad 14) (ad 23) (ad 32))))))), (ad 9, .inr (1, [.ref (ad 10), .ref (ad 11), .ref (ad 12), .int wt])), (ad 10, .inl (τ 0, 24, .inl wd)), (ad 11, .inl (τ 0, 24, .inl wh)), (ad 12, .inl (τ 0, 24, .inl wp)), (ad 13, .inl (τ 0, 24, .inl rg)), (ad 14, .inr (3, [.int pl0, .int af0, .ref (ad 15), .ref (ad 19)])), (ad 15, .inr (1, [.ref (ad 16), .ref (ad 17), .ref (ad 18), .int tt0])), (ad 16, .inl (τ 0, 24, .inl td0)), (ad 17, .inl (τ 0, 24, .inl th0)), (ad 18, .inl (τ 0, 24, .inl tp0)), (ad 19, .inr (1, [.ref (ad 20), .ref (ad 21), .ref (ad 22), .int st0])), (ad 20, .inl (τ 0, 24, .inl sd0)), (ad 21, .inl (τ 0, 24, .inl sh0)), (ad 22, .inl (τ 0, 24, .inl sp0)), (ad 23, .inr (3, [.int pl1, .int af1, .ref (ad 24), .ref (ad 28)])), (ad 24, .inr (1, [.ref (ad 25), .ref (ad 26), .ref (ad 27), .int tt1])), (ad 25, .inl (τ 0, 24, .inl td1)), (ad 26, .inl (τ 0, 24, .inl th1)), (ad 27, .inl (τ 0, 24, .inl tp1)), (ad 28, .inr (1, [.ref (ad 29), .ref (ad 30), .ref (ad 31), .int st1])), (ad 29, .inl (τ 0, 24, .inl sd1)), (ad 30, .inl (τ 0, 24, .inl sh1)), (ad 31, .inl (τ 0, 24, .inl sp1)), (ad 32, .inr (3, [.int pl2, .int af2, .ref (ad 33), .ref (ad 37)])), (ad 33, .inr (1, [.ref (ad 34), .ref (ad 35), .ref (ad 36), .int tt2])), (ad 34, .inl (τ 0, 24, .inl td2)), (ad 35, .inl (τ 0, 24, .inl th2)), (ad 36, .inl (τ 0, 24, .inl tp2)), (ad 37, .inr (1, [.ref (ad 38), .ref (ad 39), .ref (ad 40), .int st2])), (ad 38, .inl (τ 0, 24, .inl sd2)), (ad 39, .inl (τ 0, 24, .inl sh2)), (ad 40, .inl (τ 0, 24, .inl sp2))]
/-- told and spare have changed their places -/
def kSw (ad : Nat → Nat) : Nat → Nat := fun i => match i with
  | 15 => ad 19
  | 19 => ad 15
  | 16 => ad 20
  | 20 => ad 16
  | 17 => ad 21
  | 21 => ad 17
  | 18 => ad 22
  | 22 => ad 18
  | 24 => ad 28
  | 28 => ad 24
  | 25 => ad 29
  | 29 => ad 25
  | 26 => ad 30
  | 30 => ad 26
  | 27 => ad 31
  | 31 => ad 27
  | 33 => ad 37
  | 37 => ad 33
  | 34 => ad 38
  | 38 => ad 34
  | 35 => ad 39
  | 39 => ad 35
  | 36 => ad 40
  | 40 => ad 36
  | n => ad n
def kAd : Bool → (Nat → Nat) → Nat → Nat
  | true, ad => kSw ad
  | false, ad => ad
-- what the class's calls do: answer, whether told and spare change places, state
def kFull (ib x : Int32) : Prop := ¬ ib = 0 ∧ ¬ x < 30
def kFall (W : kLW) (i : Nat) (x : Int32) : Prop := ¬ W.1 i = (-1000000) ∧ W.1 i + x < 0
noncomputable def kRgB (W : kLW) (i K : Nat) (k : Nat) (r : kF) : kF := upd r k (kItr (kBack W.2.2.1) (K - k) (nI i))
noncomputable def kRec1 (N : Nat) (len : kF) (s : kSo) : kSo := (s.1, kDiff (kSettle N len s.1) s.2.2.1, kSettle N len s.1, s.2.2.1)
def kIsS (k : Int32) : Prop := ¬ k < 0 ∧ ¬ 3 ≤ k
def kLenOk (x : Int32) : Prop := ¬ x < (-1000) ∧ x ≤ 1000
/-- the source of a number -/
def kSel (S : kSt) (k : Nat) : kSo := match k with
  | 0 => S.2.2.2.2.2.1
  | 1 => S.2.2.2.2.2.2.1
  | _ => S.2.2.2.2.2.2.2
noncomputable def kChg (S : kSt) (i j : Nat) (x : Int32) : Int32 × Bool × kSt := match S with
  | ((N, ar, len), (K, O, sz, bg, en, ln), w, g, (ib, ch), a, b, c) =>
    kIf (ib = 0) (len (i * 24 + j), true, (N, kArcs ar (len (i * 24 + j)) x, upd len (i * 24 + j) x), (kKk K, kKo K O, upd (upd sz ((O + K) % 41) (nI ((sz ((O + K) % 41)).toNatClampNeg + 1))) ((kKo K O + kKk K) % 41) 0, upd bg ((O + K) % 41 * 30 + (sz ((O + K) % 41)).toNatClampNeg) (nI i), upd en ((O + K) % 41 * 30 + (sz ((O + K) % 41)).toNatClampNeg) (nI j), upd ln ((O + K) % 41 * 30 + (sz ((O + K) % 41)).toNatClampNeg) (len (i * 24 + j))), w, g, (ib, ch + 1), kRec1 N (upd len (i * 24 + j) x) a, kRec1 N (upd len (i * 24 + j) x) b, kRec1 N (upd len (i * 24 + j) x) c)
      (len (i * 24 + j), false, (N, kArcs ar (len (i * 24 + j)) x, upd len (i * 24 + j) x), (K, O, upd sz ((O + K) % 41) (nI ((sz ((O + K) % 41)).toNatClampNeg + 1)), upd bg ((O + K) % 41 * 30 + (sz ((O + K) % 41)).toNatClampNeg) (nI i), upd en ((O + K) % 41 * 30 + (sz ((O + K) % 41)).toNatClampNeg) (nI j), upd ln ((O + K) % 41 * 30 + (sz ((O + K) % 41)).toNatClampNeg) (len (i * 24 + j))), w, g, (ib, ch + 1), a, b, c)
theorem kIsS_n {k : Int32} (h : kIsS k) : k = nI 0 ∨ k = nI 1 ∨ k = nI 2 := by
  rcases pk_ix k (n := 3) (by omega) with q | q | ⟨j, hj, rfl⟩
  · exact absurd q h.1
  · exact absurd q h.2
  · rcases (show j = 0 ∨ j = 1 ∨ j = 2 by omega) with rfl | rfl | rfl
    · exact Or.inl rfl
    · exact Or.inr (Or.inl rfl)
    · exact Or.inr (Or.inr rfl)
def kLwOk (L : kLW) : Prop := kPar L.2.2.1 ∧ ∀ v, v < 24 → L.1 v = (-1000000) ∨ ∃ M, M < 24 ∧ L.2.1 v = nI M
noncomputable def fNode (T : kSt) : Int32 × Bool × kSt := kIf (T.2.2.2.2.1.1 = 0) (kIf (nI T.1.1 < 24) (nI T.1.1, false, (T.1.1 + 1, T.1.2), T.2) ((-3000000), false, T)) ((-4000000), false, T)
def kUpdS (T : kSt) (k : Nat) (x : kSo) : kSt := match k with
  | 0 => (T.1, T.2.1, T.2.2.1, T.2.2.2.1, T.2.2.2.2.1, x, T.2.2.2.2.2.2)
  | 1 => (T.1, T.2.1, T.2.2.1, T.2.2.2.1, T.2.2.2.2.1, T.2.2.2.2.2.1, x, T.2.2.2.2.2.2.2)
  | _ => (T.1, T.2.1, T.2.2.1, T.2.2.2.1, T.2.2.2.2.1, T.2.2.2.2.2.1, T.2.2.2.2.2.2.1, x)
noncomputable def fSource (T : kSt) (k v : Int32) : Int32 × Bool × kSt :=
  kIf (kIsS k ∧ (v = (-1) ∨ kNode T.1.1 v)) (kIf (T.2.2.2.2.1.1 = 0) ((kSel T k.toNatClampNeg).1, false, kUpdS T k.toNatClampNeg (v, 0, kSettle T.1.1 T.1.2.2 v, (kSel T k.toNatClampNeg).2.2.2)) ((-4000000), false, T)) ((-2000000), false, T)
/-- the open slot -/
def kOs (T : kSt) : Nat := (T.2.1.2.1 + T.2.1.1) % 41
noncomputable def fPut (T : kSt) (a b x : Int32) : Int32 × Bool × kSt :=
  kIf (kTwo T.1.1 a b ∧ kLenOk x) (kIf (kFull T.2.2.2.2.1.1 (T.2.1.2.2.1 (kOs T))) ((-3000000), false, T)
    (kIf (kFall (kSettle T.1.1 T.1.2.2 b) a.toNatClampNeg x)
      ((-5000000), false, T.1, T.2.1, kSettle T.1.1 T.1.2.2 b, (kItr (kRgB (kSettle T.1.1 T.1.2.2 b) a.toNatClampNeg ((kSettle T.1.1 T.1.2.2 b).2.1 a.toNatClampNeg).toNatClampNeg) (((kSettle T.1.1 T.1.2.2 b).2.1 a.toNatClampNeg).toNatClampNeg + 1) T.2.2.2.1.1, nI (((kSettle T.1.1 T.1.2.2 b).2.1 a.toNatClampNeg).toNatClampNeg + 1)), T.2.2.2.2)
      (kChg (T.1, T.2.1, kSettle T.1.1 T.1.2.2 b, T.2.2.2) a.toNatClampNeg b.toNatClampNeg x))) ((-2000000), false, T)
noncomputable def fTake (T : kSt) (a b : Int32) : Int32 × Bool × kSt :=
  kIf (kTwo T.1.1 a b) (kIf (kFull T.2.2.2.2.1.1 (T.2.1.2.2.1 (kOs T))) ((-3000000), false, T)
    (kIf (T.1.2.2 (a.toNatClampNeg * 24 + b.toNatClampNeg) = (-1000000)) ((-1000000), false, T) (kChg T a.toNatClampNeg b.toNatClampNeg (-1000000)))) ((-2000000), false, T)
noncomputable def fArc (T : kSt) (a b : Int32) : Int32 := kIf (kTwo T.1.1 a b) (T.1.2.2 (a.toNatClampNeg * 24 + b.toNatClampNeg)) (-2000000)
noncomputable def fBegin (T : kSt) : Int32 × Bool × kSt := kIf (T.2.2.2.2.1.1 = 0) (1, false, T.1, T.2.1, T.2.2.1, T.2.2.2.1, (1, T.2.2.2.2.1.2), T.2.2.2.2.2) ((-4000000), false, T)
noncomputable def fEnd (T : kSt) : Int32 × Bool × kSt := match T with
  | ((N, ar, len), (K, O, sz, bg, en, ln), w, g, (ib, ch), a, b, c) =>
    kIf (ib = 0) ((-4000000), false, (N, ar, len), (K, O, sz, bg, en, ln), w, g, (ib, ch), a, b, c)
      (kIf (sz ((O + K) % 41) ≤ 0) (sz ((O + K) % 41), true, (N, ar, len), (K, O, sz, bg, en, ln), w, g, (0, ch), kRec1 N len a, kRec1 N len b, kRec1 N len c)
        (sz ((O + K) % 41), true, (N, ar, len), (kKk K, kKo K O, upd sz ((kKo K O + kKk K) % 41) 0, bg, en, ln), w, g, (0, ch), kRec1 N len a, kRec1 N len b, kRec1 N len c))
noncomputable def kUnd (T : kSt) : Int32 × kF := match T with
  | ((_, ar, len), (K, O, sz, bg, en, ln), _) => kItr (kTb bg en ln ((O + (K - 1)) % 41) (sz ((O + (K - 1)) % 41)).toNatClampNeg) (sz ((O + (K - 1)) % 41)).toNatClampNeg (ar, len)
noncomputable def fUndo (T : kSt) : Int32 × Bool × kSt := match T with
  | ((N, ar, len), (K, O, sz, bg, en, ln), w, g, (ib, ch), a, b, c) =>
    kIf (ib = 0) (kIf (nI K = 0) ((-1000000), false, (N, ar, len), (K, O, sz, bg, en, ln), w, g, (ib, ch), a, b, c)
      (nI (K - 1), true, (N, (kUnd ((N, ar, len), (K, O, sz, bg, en, ln), w, g, (ib, ch), a, b, c)).1, (kUnd ((N, ar, len), (K, O, sz, bg, en, ln), w, g, (ib, ch), a, b, c)).2), (K - 1, O, upd sz ((O + (K - 1)) % 41) 0, bg, en, ln), w, g, (ib, ch), kRec1 N (kUnd ((N, ar, len), (K, O, sz, bg, en, ln), w, g, (ib, ch), a, b, c)).2 a, kRec1 N (kUnd ((N, ar, len), (K, O, sz, bg, en, ln), w, g, (ib, ch), a, b, c)).2 b, kRec1 N (kUnd ((N, ar, len), (K, O, sz, bg, en, ln), w, g, (ib, ch), a, b, c)).2 c))
      ((-4000000), false, (N, ar, len), (K, O, sz, bg, en, ln), w, g, (ib, ch), a, b, c)
noncomputable def fDist (T : kSt) (k v : Int32) : Int32 := kIf (kIsS k ∧ kNode T.1.1 v) ((kSel T k.toNatClampNeg).2.2.1.1 v.toNatClampNeg) (-2000000)
noncomputable def fHops (T : kSt) (k v : Int32) : Int32 := kIf (kIsS k ∧ kNode T.1.1 v) ((kSel T k.toNatClampNeg).2.2.1.2.1 v.toNatClampNeg) (-2000000)
noncomputable def fPar (T : kSt) (k v : Int32) : Int32 := kIf (kIsS k ∧ kNode T.1.1 v) ((kSel T k.toNatClampNeg).2.2.1.2.2.1 v.toNatClampNeg) (-2000000)
noncomputable def kWay (L : kLW) (v : Nat) (i : Int32) : Int32 := kIf (L.1 v = (-1000000)) (-1000000) (kIf (i = (-1)) (L.2.1 v + 1) (kIf (¬ i < 0 ∧ ¬ L.2.1 v + 1 ≤ i) (kItr (kBack L.2.2.1) ((L.2.1 v).toNatClampNeg - i.toNatClampNeg) (nI v)) (-2000000)))
noncomputable def fWay (T : kSt) (k v i : Int32) : Int32 := kIf (kIsS k ∧ kNode T.1.1 v) (kWay (kSel T k.toNatClampNeg).2.2.1 v.toNatClampNeg i) (-2000000)
noncomputable def fAff (T : kSt) (k : Int32) : Int32 := kIf (kIsS k) (kSel T k.toNatClampNeg).2.1 (-2000000)
noncomputable def fTight (T : kSt) (k : Int32) : Int32 := kIf (kIsS k) (kSel T k.toNatClampNeg).2.2.1.2.2.2 (-2000000)
noncomputable def fRing (T : kSt) (i : Int32) : Int32 := kIf (i = (-1)) T.2.2.2.1.2 (kIf (¬ i < 0 ∧ ¬ T.2.2.2.1.2 ≤ i) (T.2.2.2.1.1 i.toNatClampNeg) (-2000000))
noncomputable def fCount (T : kSt) (w : Int32) : Int32 := kIf (w = 0) (nI T.1.1) (kIf (w = 1) T.1.2.1 (kIf (w = 2) (nI T.2.1.1) (kIf (w = 3) (T.2.1.2.2.1 (kOs T)) (kIf (w = 4) (kIf (T.2.2.2.2.1.1 = 0) 0 1) (kIf (w = 5) T.2.2.2.2.1.2 (-2000000))))))
theorem kSw6 {w : Int32} (h0 : ¬ w = 0) (h1 : ¬ w = 1) (h2 : ¬ w = 2) (h3 : ¬ w = 3) (h4 : ¬ w = 4) (h5 : ¬ w = 5) : w.toInt < 0 ∨ 5 < w.toInt := by
  have a0 : ¬ w.toInt = 0 := fun q => h0 (Int32.toInt_inj.mp q)
  have a1 : ¬ w.toInt = 1 := fun q => h1 (Int32.toInt_inj.mp q)
  have a2 : ¬ w.toInt = 2 := fun q => h2 (Int32.toInt_inj.mp q)
  have a3 : ¬ w.toInt = 3 := fun q => h3 (Int32.toInt_inj.mp q)
  have a4 : ¬ w.toInt = 4 := fun q => h4 (Int32.toInt_inj.mp q)
  have a5 : ¬ w.toInt = 5 := fun q => h5 (Int32.toInt_inj.mp q)
  omega
theorem kOpenS {ib x : Int32} (h : ∃ S, S ≤ 30 ∧ x = nI S ∧ (ib = 0 → S = 0)) (hf : ¬ kFull ib x) : ∃ S, S < 30 ∧ x = nI S := by
  obtain ⟨S, h1, h2, h3⟩ := h
  refine ⟨S, ?_, h2⟩
  by_cases q : ib = 0
  · have := h3 q; omega
  · by_cases z : S < 30
    · exact z
    · exfalso
      apply hf
      refine ⟨q, ?_⟩
      rw [h2]
      exact nI_nlt (a := S) (b := 30) (by omega) (by omega)
theorem kWayI {i x : Int32} {M : Nat} (h1 : ¬ i < 0) (h2 : ¬ x + 1 ≤ i) (hx : x = nI M) (hM : M < 24) : ∃ q, q ≤ M ∧ i = nI q := by
  rcases pk_ix i (n := M + 1) (by omega) with q | q | ⟨j, hj, rfl⟩
  · exact absurd q h1
  · exfalso; apply h2; rw [hx, nI_1]; exact q
  · exact ⟨j, by omega, rfl⟩
theorem kRingI {i x : Int32} {M : Nat} (h1 : ¬ i < 0) (h2 : ¬ x ≤ i) (hx : x = nI M) (hM : M ≤ 24) : ∃ q, q < M ∧ i = nI q := by
  rcases pk_ix i (n := M) (by omega) with q | q | q
  · exact absurd q h1
  · exfalso; apply h2; rw [hx]; exact q
  · exact q
