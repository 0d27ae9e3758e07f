/-! what the reference computes -/
theorem k_mulL {c : Int32} (n u : Nat) (h : c = nI n) : c * nI u = nI (u * n) := by rw [h, pk_mul, Nat.mul_comm]
def mIn (x lo hi : Int32) : Prop := ¬ x < lo ∧ ¬ hi < x
noncomputable def mB3 (xc lst : kF) (h v u : Nat) (b : Int32) : Int32 :=
  kIf (lst ((h - 1) * 24 + u) = 1000000) b (kIf (xc (u * 24 + v) = 1000000) b (kIf (b ≤ lst ((h - 1) * 24 + u) + xc (u * 24 + v)) b (lst ((h - 1) * 24 + u) + xc (u * 24 + v))))
noncomputable def mBest (N : Nat) (xc lst : kF) (fr h v : Nat) : Int32 := kIf (h = 0) (kIf (v = fr) 0 1000000) (kItr (mB3 xc lst h v) N 1000000)
noncomputable def mL2 (N : Nat) (xc : kF) (fr h v : Nat) (lst : kF) : kF := upd lst (h * 24 + v) (mBest N xc lst fr h v)
noncomputable def mL1 (N : Nat) (xc : kF) (fr h : Nat) (lst : kF) : kF := kItr (mL2 N xc fr h) N lst
noncomputable def mL5 (lst : kF) (v h : Nat) (st : kF × kF) : kF × kF := kIf (st.1 v ≤ lst (h * 24 + v)) st (upd st.1 v (lst (h * 24 + v)), upd st.2 v (nI h))
noncomputable def mL4 (N : Nat) (lst : kF) (v : Nat) (st : kF × kF × kF) : kF × kF × kF := ((kItr (mL5 lst v) N (upd st.1 v 1000000, upd st.2.1 v (-1000000))).1, (kItr (mL5 lst v) N (upd st.1 v 1000000, upd st.2.1 v (-1000000))).2, upd st.2.2 v (-1000000))
noncomputable def mL7 (N : Nat) (xc fl fh : kF) (v k : Nat) (fp : kF) : kF :=
  kIf (¬ fl (N - k - 1) = 1000000 ∧ ¬ xc ((N - k - 1) * 24 + v) = 1000000 ∧ fl (N - k - 1) + xc ((N - k - 1) * 24 + v) = fl v ∧ fh (N - k - 1) + 1 = fh v) (upd fp v (nI (N - k - 1))) (upd fp v (fp v))
noncomputable def mL6 (N : Nat) (xc fl fh : kF) (fr v : Nat) (fp : kF) : kF := kIf (v = fr) fp (kItr (mL7 N xc fl fh v) N fp)
abbrev mFd : Type := kF × kF × kF × kF
noncomputable def mFind (N : Nat) (xc : kF) (fr : Nat) (f : mFd) : mFd :=
  (kItr (mL1 N xc fr) N f.1, (kItr (mL4 N (kItr (mL1 N xc fr) N f.1)) N f.2).1, (kItr (mL4 N (kItr (mL1 N xc fr) N f.1)) N f.2).2.1, kItr (mL6 N xc (kItr (mL4 N (kItr (mL1 N xc fr) N f.1)) N f.2).1 (kItr (mL4 N (kItr (mL1 N xc fr) N f.1)) N f.2).2.1 fr) N (kItr (mL4 N (kItr (mL1 N xc fr) N f.1)) N f.2).2.2)
theorem k_back (f : kF) (i : Nat) (x : Int32) : upd (upd f i x) i (f i) = f := by
  funext j
  by_cases z : j = i
  · subst z; rw [pk_us]
  · rw [pk_un z, pk_un z]
noncomputable def mS1 (k : Nat) (st : kF × kF × kF × kF × kF × kF) : kF × kF × kF × kF × kF × kF :=
  (upd st.1 k (st.2.2.2.1 k), upd st.2.1 k (st.2.2.2.2.1 k), upd st.2.2.1 k (st.2.2.2.2.2 k), upd st.2.2.2.1 k (-1000000), upd st.2.2.2.2.1 k (-1000000), upd st.2.2.2.2.2 k (-1000000))
noncomputable def mS4 (xc fl : kF) (z v u : Nat) (xt : kF) : kF := kIf (¬ fl v = 1000000 ∧ ¬ xc (v * 24 + u) = 1000000 ∧ fl v + xc (v * 24 + u) = fl u) (upd xt z (xt z + 1)) (upd xt z (xt z))
noncomputable def mS3 (N : Nat) (xc fl fh fp : kF) (z v : Nat) (st : kF × kF × kF × kF) : kF × kF × kF × kF :=
  (upd st.1 (z * 24 + v) (kIf (fl v = 1000000) (-1000000) (fl v)), upd st.2.1 (z * 24 + v) (fh v), upd st.2.2.1 (z * 24 + v) (fp v), kItr (mS4 xc fl z v) N st.2.2.2)
/-- distances, hops, parents, tight; least, found length, hops, parents -/
abbrev mX : Type := kF × kF × kF × kF × kF × kF × kF × kF
noncomputable def mS2f (N : Nat) (xc : kF) (z fr : Nat) (st : mX) : mX :=
  ((kItr (mS3 N xc (mFind N xc fr st.2.2.2.2).2.1 (mFind N xc fr st.2.2.2.2).2.2.1 (mFind N xc fr st.2.2.2.2).2.2.2 z) N (st.1, st.2.1, st.2.2.1, upd st.2.2.2.1 z 0)).1, (kItr (mS3 N xc (mFind N xc fr st.2.2.2.2).2.1 (mFind N xc fr st.2.2.2.2).2.2.1 (mFind N xc fr st.2.2.2.2).2.2.2 z) N (st.1, st.2.1, st.2.2.1, upd st.2.2.2.1 z 0)).2.1, (kItr (mS3 N xc (mFind N xc fr st.2.2.2.2).2.1 (mFind N xc fr st.2.2.2.2).2.2.1 (mFind N xc fr st.2.2.2.2).2.2.2 z) N (st.1, st.2.1, st.2.2.1, upd st.2.2.2.1 z 0)).2.2.1, (kItr (mS3 N xc (mFind N xc fr st.2.2.2.2).2.1 (mFind N xc fr st.2.2.2.2).2.2.1 (mFind N xc fr st.2.2.2.2).2.2.2 z) N (st.1, st.2.1, st.2.2.1, upd st.2.2.2.1 z 0)).2.2.2, mFind N xc fr st.2.2.2.2)
noncomputable def mS2 (N : Nat) (xc sr : kF) (z : Nat) (st : mX) : mX :=
  kIf (sr z < 0) (st.1, st.2.1, st.2.2.1, upd st.2.2.2.1 z 0, st.2.2.2.2) (mS2f N xc z (sr z).toNatClampNeg st)
noncomputable def mS6 (xd xh xp vd vh vp : kF) (z v : Nat) (xa : kF) : kF :=
  kIf (xd (z * 24 + v) = vd (z * 24 + v) ∧ xh (z * 24 + v) = vh (z * 24 + v) ∧ xp (z * 24 + v) = vp (z * 24 + v)) (upd xa z (xa z)) (upd xa z (xa z ||| ((1 : Int32) <<< (nI v &&& 31))))
noncomputable def mS5 (N : Nat) (xd xh xp vd vh vp : kF) (z : Nat) (xa : kF) : kF := kItr (mS6 xd xh xp vd vh vp z) N (upd xa z 0)
noncomputable def mCp (vd vh vp xd xh xp : kF) : kF × kF × kF × kF × kF × kF := kItr mS1 72 (vd, vh, vp, xd, xh, xp)
noncomputable def mSt2 (N : Nat) (xc sr : kF) (c : kF × kF × kF × kF × kF × kF) (xt : kF) (f : mFd) : mX := kItr (mS2 N xc sr) 3 (c.2.2.2.1, c.2.2.2.2.1, c.2.2.2.2.2, xt, f)
abbrev mT : Type := (Nat × kF × kF) × (kF × kF × kF × kF × kF) × (kF × kF × kF × kF × kF × kF × kF) × (Nat × kF × kF × kF) × (Int32 × Int32 × Int32 × Int32 × kF)
/-- settle -/
noncomputable def mSet (T : mT) : mT := match T with
  | ((N, xc, sr), (xd, xh, xp, xt, xa), (vd, vh, vp, f), q, r) =>
    ((N, xc, sr), ((mSt2 N xc sr (mCp vd vh vp xd xh xp) xt f).1, (mSt2 N xc sr (mCp vd vh vp xd xh xp) xt f).2.1, (mSt2 N xc sr (mCp vd vh vp xd xh xp) xt f).2.2.1, (mSt2 N xc sr (mCp vd vh vp xd xh xp) xt f).2.2.2.1, xa),
      ((mCp vd vh vp xd xh xp).1, (mCp vd vh vp xd xh xp).2.1, (mCp vd vh vp xd xh xp).2.2.1, (mSt2 N xc sr (mCp vd vh vp xd xh xp) xt f).2.2.2.2), q, r)
/-- count -/
noncomputable def mCnt (T : mT) : mT := match mSet T with
  | ((N, xc, sr), (xd, xh, xp, xt, xa), (vd, vh, vp, f), q, r) => ((N, xc, sr), (xd, xh, xp, xt, kItr (mS5 N xd xh xp vd vh vp) 3 xa), (vd, vh, vp, f), q, r)
noncomputable def mKm (k : Nat) (f : kF) : kF := upd f k (f (k + 1))
noncomputable def mKq (k : Nat) (st : kF × kF) : kF × kF := (upd st.1 k (st.1 (k + 30)), upd st.2 k (st.2 (k + 30)))
noncomputable def mKeepM (K : Nat) (f : kF) : kF := if K < 40 then f else kItr mKm 40 f
noncomputable def mKeepQ (K : Nat) (f : kF × kF) : kF × kF := if K < 40 then f else kItr mKq 1200 f
noncomputable def mKeep (T : mT) : mT := match T with
  | (n, x, v, (K, mn, qp, qe), r) => (n, x, v, (kKk K, mKeepM K mn, (mKeepQ K (qp, qe)).1, (mKeepQ K (qp, qe)).2), r)
