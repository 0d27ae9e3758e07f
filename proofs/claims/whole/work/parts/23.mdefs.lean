/-- the cells of the reference -/
def wM (τ : Nat → ClassId) (md : Nat → Nat) (T : mT) : va_W := match T with
  | ((N, xc, sr), (xd, xh, xp, xt, xa), (vd, vh, vp, lst, fl, fh, fp), (K, mn, qp, qe), (th, ib, ch, rs, rg)) => [(md 0, .inr (5, [.int th, .int (nI N), .ref (md 1), .ref (md 2), .ref (md 3), .ref (md 4), .ref (md 5), .ref (md 6), .ref (md 7), .ref (md 8), .ref (md 9), .ref (md 10), .ref (md 11), .ref (md 12), .ref (md 13), .ref (md 14), .int (nI K), .ref (md 15), .ref (md 16), .ref (md 17), .int ib, .int ch, .int rs, .ref (md 18)])), (md 1, .inl (τ 0, 576, .inl xc)), (md 2, .inl (τ 0, 3, .inl sr)), (md 3, .inl (τ 0, 72, .inl xd)), (md 4, .inl (τ 0, 72, .inl xh)), (md 5, .inl (τ 0, 72, .inl xp)), (md 6, .inl (τ 0, 3, .inl xt)), (md 7, .inl (τ 0, 3, .inl xa)), (md 8, .inl (τ 0, 72, .inl vd)), (md 9, .inl (τ 0, 72, .inl vh)), (md 10, .inl (τ 0, 72, .inl vp)), (md 11, .inl (τ 0, 600, .inl lst)), (md 12, .inl (τ 0, 24, .inl fl)), (md 13, .inl (τ 0, 24, .inl fh)), (md 14, .inl (τ 0, 24, .inl fp)), (md 15, .inl (τ 0, 41, .inl mn)), (md 16, .inl (τ 0, 1230, .inl qp)), (md 17, .inl (τ 0, 1230, .inl qe)), (md 18, .inl (τ 0, 24, .inl rg))]
-- what the reference's calls do
noncomputable def mChg (T : mT) (i : Nat) (x : Int32) : mT := match T with
  | ((N, xc, sr), X, V, (K, mn, qp, qe), (th, ib, ch, rg)) =>
    kIf (ib = 0) (mCnt (mKeep ((N, upd xc i x, sr), X, V, (K, upd mn K (nI 1), upd qp (K * 30) (nI i), upd qe (K * 30) (xc i)), (th, ib, ch + 1, rg))))
      ((N, upd xc i x, sr), X, V, (K, upd mn K (nI ((mn K).toNatClampNeg + 1)), upd qp (K * 30 + (mn K).toNatClampNeg) (nI i), upd qe (K * 30 + (mn K).toNatClampNeg) (xc i)), (th, ib, ch + 1, rg))
noncomputable def mRgB (fp : kF) (M k : Nat) (st : kF × Int32) : kF × Int32 := (upd st.1 (M - k) st.2, fp st.2.toNatClampNeg)
/-- the ways from b without the arc from a to b -/
noncomputable def mFb (T : mT) (a b : Nat) : mFd := mFind T.1.1 (upd T.1.2.1 (a * 24 + b) 1000000) b T.2.2.1.2.2.2
def mFall (F : mFd) (a : Nat) (x : Int32) : Prop := ¬ F.2.1 a = 1000000 ∧ F.2.1 a + x < 0
def mSetF (T : mT) (F : mFd) : mT := (T.1, T.2.1, (T.2.2.1.1, T.2.2.1.2.1, T.2.2.1.2.2.1, F), T.2.2.2)
def mTh (T : mT) : mT := (T.1, T.2.1, T.2.2.1, T.2.2.2.1, (0, T.2.2.2.2.2))
def mNode (N : Nat) (v : Int32) : Prop := mIn v 0 (nI N - 1)
def mTwo (N : Nat) (a b : Int32) : Prop := mNode N a ∧ mNode N b ∧ ¬ a = b
def mFull (T : mT) : Prop := ¬ T.2.2.2.2.2.1 = 0 ∧ T.2.2.2.1.2.1 T.2.2.2.1.1 = 30
noncomputable def gNode (T : mT) : Int32 × mT := kIf (T.2.2.2.2.2.1 = 0) (kIf (nI T.1.1 = 24) ((-3000000), mTh T) (nI T.1.1, mSet ((T.1.1 + 1, T.1.2), (mTh T).2))) ((-4000000), mTh T)
noncomputable def gSource (T : mT) (k v : Int32) : Int32 × mT :=
  kIf (mIn k 0 2 ∧ mIn v (-1) (nI T.1.1 - 1)) (kIf (T.2.2.2.2.2.1 = 0) (T.1.2.2 k.toNatClampNeg, mSet ((T.1.1, T.1.2.1, upd T.1.2.2 k.toNatClampNeg v), (T.2.1.1, T.2.1.2.1, T.2.1.2.2.1, T.2.1.2.2.2.1, upd T.2.1.2.2.2.2 k.toNatClampNeg 0), (mTh T).2.2)) ((-4000000), mTh T)) ((-2000000), mTh T)
noncomputable def gPut (T : mT) (a b x : Int32) : Int32 × mT :=
  kIf (mTwo T.1.1 a b ∧ mIn x (-1000) 1000) (kIf (mFull T) ((-3000000), mTh T)
    (kIf (mFall (mFb T a.toNatClampNeg b.toNatClampNeg) a.toNatClampNeg x)
      ((-5000000), (mSetF T (mFb T a.toNatClampNeg b.toNatClampNeg)).1, (mSetF T (mFb T a.toNatClampNeg b.toNatClampNeg)).2.1, (mSetF T (mFb T a.toNatClampNeg b.toNatClampNeg)).2.2.1, T.2.2.2.1, (0, T.2.2.2.2.2.1, T.2.2.2.2.2.2.1, nI (((mFb T a.toNatClampNeg b.toNatClampNeg).2.2.1 a.toNatClampNeg).toNatClampNeg + 1), (kItr (mRgB (mFb T a.toNatClampNeg b.toNatClampNeg).2.2.2 ((mFb T a.toNatClampNeg b.toNatClampNeg).2.2.1 a.toNatClampNeg).toNatClampNeg) (((mFb T a.toNatClampNeg b.toNatClampNeg).2.2.1 a.toNatClampNeg).toNatClampNeg + 1) (T.2.2.2.2.2.2.2.2, nI a.toNatClampNeg)).1))
      (kIf (T.1.2.1 (a.toNatClampNeg * 24 + b.toNatClampNeg) = 1000000) (-1000000) (T.1.2.1 (a.toNatClampNeg * 24 + b.toNatClampNeg)), mChg (mTh (mSetF T (mFb T a.toNatClampNeg b.toNatClampNeg))) (a.toNatClampNeg * 24 + b.toNatClampNeg) x))) ((-2000000), mTh T)
noncomputable def gTake (T : mT) (a b : Int32) : Int32 × mT :=
  kIf (mTwo T.1.1 a b) (kIf (mFull T) ((-3000000), mTh T)
    (kIf (T.1.2.1 (a.toNatClampNeg * 24 + b.toNatClampNeg) = 1000000) ((-1000000), mTh T) (T.1.2.1 (a.toNatClampNeg * 24 + b.toNatClampNeg), mChg (mTh T) (a.toNatClampNeg * 24 + b.toNatClampNeg) 1000000))) ((-2000000), mTh T)
noncomputable def gArc (T : mT) (a b : Int32) : Int32 := kIf (mTwo T.1.1 a b) (kIf (T.1.2.1 (a.toNatClampNeg * 24 + b.toNatClampNeg) = 1000000) (-1000000) (T.1.2.1 (a.toNatClampNeg * 24 + b.toNatClampNeg))) (-2000000)
noncomputable def gBegin (T : mT) : Int32 × mT := kIf (T.2.2.2.2.2.1 = 0) (1, T.1, T.2.1, T.2.2.1, (T.2.2.2.1.1, upd T.2.2.2.1.2.1 T.2.2.2.1.1 0, T.2.2.2.1.2.2), (0, 1, T.2.2.2.2.2.2)) ((-4000000), mTh T)
noncomputable def gEnd (T : mT) : Int32 × mT := kIf (T.2.2.2.2.2.1 = 0) ((-4000000), mTh T)
  (kIf (T.2.2.2.1.2.1 T.2.2.2.1.1 ≤ 0) (T.2.2.2.1.2.1 T.2.2.2.1.1, mCnt (T.1, T.2.1, T.2.2.1, T.2.2.2.1, (0, 0, T.2.2.2.2.2.2))) (T.2.2.2.1.2.1 T.2.2.2.1.1, mCnt (mKeep (T.1, T.2.1, T.2.2.1, T.2.2.2.1, (0, 0, T.2.2.2.2.2.2)))))
noncomputable def mUb (qp qe : kF) (K S k : Nat) (xc : kF) : kF := upd xc (qp (K * 30 + (S - k - 1))).toNatClampNeg (qe (K * 30 + (S - k - 1)))
noncomputable def gUndo (T : mT) : Int32 × mT := match T with
  | ((N, xc, sr), X, V, (K, mn, qp, qe), (th, ib, r)) =>
    kIf (ib = 0) (kIf (nI K = 0) ((-1000000), (N, xc, sr), X, V, (K, mn, qp, qe), (0, ib, r))
      (nI (K - 1), mCnt ((N, kItr (mUb qp qe (K - 1) (mn (K - 1)).toNatClampNeg) (mn (K - 1)).toNatClampNeg xc, sr), X, V, (K - 1, mn, qp, qe), (0, ib, r)))) ((-4000000), (N, xc, sr), X, V, (K, mn, qp, qe), (0, ib, r))
def mGood (N : Nat) (k v : Int32) : Prop := mIn k 0 2 ∧ mNode N v
noncomputable def gDist (T : mT) (k v : Int32) : Int32 := kIf (mGood T.1.1 k v) (T.2.1.1 (k.toNatClampNeg * 24 + v.toNatClampNeg)) (-2000000)
noncomputable def gHops (T : mT) (k v : Int32) : Int32 := kIf (mGood T.1.1 k v) (T.2.1.2.1 (k.toNatClampNeg * 24 + v.toNatClampNeg)) (-2000000)
noncomputable def gPar (T : mT) (k v : Int32) : Int32 := kIf (mGood T.1.1 k v) (T.2.1.2.2.1 (k.toNatClampNeg * 24 + v.toNatClampNeg)) (-2000000)
noncomputable def mWb (xp : kF) (z : Nat) (_ : Nat) (x : Int32) : Int32 := xp (z * 24 + x.toNatClampNeg)
noncomputable def mWay (xh xp : kF) (z v : Nat) (i : Int32) : Int32 :=
  kIf (xh (z * 24 + v) = (-1000000)) (-1000000) (kIf (mIn i (-1) (xh (z * 24 + v))) (kIf (i < 0) (xh (z * 24 + v) + 1) (kItr (mWb xp z) ((xh (z * 24 + v)).toNatClampNeg - i.toNatClampNeg) (nI v))) (-2000000))
noncomputable def gWay (T : mT) (k v i : Int32) : Int32 := kIf (mGood T.1.1 k v) (mWay T.2.1.2.1 T.2.1.2.2.1 k.toNatClampNeg v.toNatClampNeg i) (-2000000)
noncomputable def gAff (T : mT) (k : Int32) : Int32 := kIf (mIn k 0 2) (T.2.1.2.2.2.2 k.toNatClampNeg) (-2000000)
noncomputable def gTight (T : mT) (k : Int32) : Int32 := kIf (mIn k 0 2) (T.2.1.2.2.2.1 k.toNatClampNeg) (-2000000)
noncomputable def gRing (T : mT) (i : Int32) : Int32 := kIf (mIn i (-1) (T.2.2.2.2.2.2.2.1 - 1)) (kIf (i < 0) T.2.2.2.2.2.2.2.1 (T.2.2.2.2.2.2.2.2 i.toNatClampNeg)) (-2000000)
noncomputable def mArcs (xc : kF) (k : Nat) (n : Int32) : Int32 := kIf (xc k = 1000000) n (n + 1)
noncomputable def gCount (T : mT) (w : Int32) : Int32 := kIf (w = 0) (nI T.1.1) (kIf (w = 1) (kItr (mArcs T.1.2.1) 576 0) (kIf (w = 2) (nI T.2.2.2.1.1) (kIf (w = 3) (kIf (T.2.2.2.2.2.1 = 0) 0 (T.2.2.2.1.2.1 T.2.2.2.1.1)) (kIf (w = 4) (kIf (T.2.2.2.2.2.1 = 0) 0 1) (kIf (w = 5) T.2.2.2.2.2.2.1 (-2000000))))))
theorem mNode_n {N : Nat} {x : Int32} (hN : N ≤ 24) (h : mIn x 0 (nI N - 1)) : ∃ j, j < N ∧ x = nI j := by
  obtain ⟨h1, h2⟩ := h
  rcases Nat.eq_zero_or_pos N with z | z
  · exfalso
    subst z
    apply h2
    have a := Int32.le_iff_toInt_le.mp (Int32.not_lt.mp h1)
    rw [Int32.lt_iff_toInt_lt]
    have : (nI 0 - 1).toInt = -1 := by decide
    have b : (0 : Int32).toInt = 0 := rfl
    omega
  · rw [show nI N - 1 = nI (N - 1) from pk_sub (b := 1) z] at h2
    rcases pk_ix x (n := N) (by omega) with q | q | q
    · exact absurd q h1
    · exfalso; apply h2
      exact Int32.lt_of_lt_of_le (nI_lt (a := N - 1) (b := N) (by omega) (by omega)) q
    · exact q
theorem mNode_i {N j : Nat} (hN : N ≤ 24) (h : j < N) : mIn (nI j) 0 (nI N - 1) := by
  refine ⟨nI_pos (by omega), ?_⟩
  rw [show nI N - 1 = nI (N - 1) from pk_sub (b := 1) (by omega)]
  exact nI_nlt (by omega) (by omega)
theorem mIn3 {k : Int32} (h : mIn k 0 2) : ∃ z, z < 3 ∧ k = nI z := by
  rcases pk_ix k (n := 3) (by omega) with q | q | q
  · exact absurd q h.1
  · exfalso; apply h.2
    exact Int32.lt_of_lt_of_le (show (2 : Int32) < nI 3 by decide) q
  · exact q
def mRok (F : mFd) (rg : kF) (i M : Nat) : Prop := ¬ F.2.1 i = 1000000 → F.2.2.1 i = nI M ∧ M < 24 ∧ ∀ q, q ≤ M → ∃ u, u < 24 ∧ (kItr (mRgB F.2.2.2 M) q (rg, nI i)).2 = nI u
theorem mOpenS {ib x : Int32} (hSz : ¬ ib = 0 → ∃ S, S ≤ 30 ∧ x = nI S) (h : ib = 0 ∨ ¬ x = 30) : ∃ S, S < 30 ∧ (¬ ib = 0 → x = nI S) ∧ (ib = 0 → S = 0) := by
  by_cases q : ib = 0
  · exact ⟨0, by omega, fun z => absurd q z, fun _ => rfl⟩
  · obtain ⟨S, h1, h2⟩ := hSz q
    refine ⟨S, ?_, fun _ => h2, fun z => absurd z q⟩
    rcases h with h | h
    · exact absurd h q
    · rcases Nat.lt_or_ge S 30 with z | z
      · exact z
      · exact absurd (by rw [h2, show S = 30 by omega]; rfl) h
theorem mSrc {N z : Nat} {sr : kF} {v : Int32} (hN : N ≤ 24) (hsr : ∀ q, q < 3 → sr q < 0 ∨ ∃ j, j < N ∧ sr q = nI j) (hv : mIn v (-1) (nI N - 1)) : ∀ q, q < 3 → upd sr z v q < 0 ∨ ∃ j, j < N ∧ upd sr z v q = nI j := by
  intro q hq
  by_cases e : q = z
  · subst e
    rw [pk_us]
    by_cases g : v < 0
    · exact Or.inl g
    · exact Or.inr (mNode_n hN ⟨g, hv.2⟩)
  · rw [pk_un e]
    exact hsr q hq
theorem mWayI {i x : Int32} {M : Nat} (h1 : ¬ i < 0) (h2 : ¬ x < i) (hx : x = nI M) (hM : M < 24) : ∃ q, q ≤ M ∧ i = nI q := by
  rcases pk_ix i (n := M + 1) (by omega) with q | q | ⟨j, hj, rfl⟩
  · exact absurd q h1
  · exfalso; apply h2; rw [hx]
    exact Int32.lt_of_lt_of_le (nI_lt (a := M) (b := M + 1) (by omega) (by omega)) q
  · exact ⟨j, by omega, rfl⟩
