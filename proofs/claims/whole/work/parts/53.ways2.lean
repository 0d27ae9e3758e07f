/-- a length that the reference found, as the class tells it -/
noncomputable def kFrom (y : Int32) : Int32 := kIf (y = 1000000) (-1000000) y
/-- lengths and hops: the same -/
theorem kWays {N s : Nat} {len xc : kF} (hL : kLen N len) (hx : kXc len xc) (hs : s < N) (hR : kNR (kG N len)) (f : mFd) : ∀ v, v < N → (kRel N len s).1 v = kFrom ((mFind N xc s f).2.1 v) ∧ (kRel N len s).2.1 v = (mFind N xc s f).2.2.1 v ∧ ((kRel N len s).1 v = (-1000000) ↔ (mFind N xc s f).2.1 v = 1000000) := by
  intro v hv
  have hN24 := hL.1
  rcases kRel_ok hL hs hR v hv with ⟨a1, a2, a3⟩ | ⟨a1, k, a2, a3, a4⟩
  · rcases (mFind_ok hL hx hs hR f v hv).1 with ⟨b1, b2, b3⟩ | ⟨b1, k2, b2, b3, b4⟩
    · refine ⟨?_, by rw [a2, b2], ⟨fun _ => b1, fun _ => a1⟩⟩
      unfold kFrom
      rw [a1, kIf_t b1]
    · exact absurd b4.1 (a3 _ _)
  · rcases (mFind_ok hL hx hs hR f v hv).1 with ⟨b1, b2, b3⟩ | ⟨b1, k2, b2, b3, b4⟩
    · exact absurd a4.1 (b3 _ _)
    · obtain ⟨c1, c2⟩ := kLst_u a4 b4
      have e : (kRel N len s).1 v = (mFind N xc s f).2.1 v := Int32.toInt_inj.mp c1
      refine ⟨?_, by rw [a3, b3, c2], ⟨fun z => absurd z a1, fun z => absurd z b1⟩⟩
      unfold kFrom
      rw [e, kIf_f b1]
theorem kRel_abs {N s : Nat} {len : kF} (hL : kLen N len) (hs : s < N) (hR : kNR (kG N len)) {v : Nat} (hv : v < N) (h : ¬ (kRel N len s).1 v = (-1000000)) : -24000 ≤ ((kRel N len s).1 v).toInt ∧ ((kRel N len s).1 v).toInt ≤ 24000 := by
  have hN24 := hL.1
  rcases kRel_ok hL hs hR v hv with ⟨a1, -⟩ | ⟨a1, k, a2, a3, a4⟩
  · exact absurd a1 h
  · have := kWk_abs (M := 1000) (kLen_abs hL) k v _ a4.1
    omega
/-- an arc out of a node that is reached, tight for one, is so for the other -/
theorem kTight {N s : Nat} {len xc : kF} (hL : kLen N len) (hx : kXc len xc) (hs : s < N) (hR : kNR (kG N len)) (f : mFd) {u v : Nat} (hu : u < N) (hv : v < N) :
    (¬ (kRel N len s).1 u = (-1000000) ∧ kTt len (kRel N len s).1 u v) ↔ (¬ (mFind N xc s f).2.1 u = 1000000 ∧ ¬ xc (u * 24 + v) = 1000000 ∧ (mFind N xc s f).2.1 u + xc (u * 24 + v) = (mFind N xc s f).2.1 v) := by
  have hN24 := hL.1
  obtain ⟨a1, a2, a3⟩ := kWays hL hx hs hR f u hu
  obtain ⟨b1, b2, b3⟩ := kWays hL hx hs hR f v hv
  have hxn := hx u v (by omega) (by omega)
  have hto := kTo_no hL (u := u) (v := v) (by omega) (by omega)
  by_cases q1 : (kRel N len s).1 u = (-1000000)
  · exact ⟨fun z => absurd q1 z.1, fun z => absurd (a3.mp q1) z.1⟩
  · have q1' : ¬ (mFind N xc s f).2.1 u = 1000000 := fun z => q1 (a3.mpr z)
    have eu : (kRel N len s).1 u = (mFind N xc s f).2.1 u := by rw [a1]; unfold kFrom; exact kIf_f q1'
    by_cases q2 : len (u * 24 + v) = (-1000000)
    · exact ⟨fun z => absurd q2 z.2.1, fun z => absurd (by rw [hxn]; exact hto.mpr q2) z.2.1⟩
    · have q2' : ¬ xc (u * 24 + v) = 1000000 := fun z => q2 (hto.mp (by rw [← hxn]; exact z))
      have ex : xc (u * 24 + v) = len (u * 24 + v) := by rw [hxn]; exact kTo_some q2
      have hg : kG N len u v = some (len (u * 24 + v)).toInt := kG_some.mpr ⟨⟨hu, hv, q2⟩, rfl⟩
      have hab := kLen_abs hL u v _ hg
      have hau := kRel_abs hL hs hR hu q1
      have hsum : ((kRel N len s).1 u + len (u * 24 + v)).toInt = ((kRel N len s).1 u).toInt + (len (u * 24 + v)).toInt := kadd (by omega) (by omega)
      unfold kTt
      by_cases q3 : (kRel N len s).1 v = (-1000000)
      · have q3' := b3.mp q3
        constructor
        · intro z
          exfalso
          have := z.2.2
          rw [q3] at this
          rw [this, kno_int] at hsum
          omega
        · intro z
          exfalso
          have := z.2.2
          rw [q3', ex, ← eu] at this
          rw [this, kmil] at hsum
          omega
      · have q3' : ¬ (mFind N xc s f).2.1 v = 1000000 := fun z => q3 (b3.mpr z)
        have ev : (kRel N len s).1 v = (mFind N xc s f).2.1 v := by rw [b1]; unfold kFrom; exact kIf_f q3'
        rw [ex, ← eu, ← ev]
        exact ⟨fun z => ⟨by rw [eu]; exact q1', by rw [← ex]; exact q2', z.2.2⟩, fun z => ⟨q1, q2, z.2.2⟩⟩
theorem kParents {N s : Nat} {len xc : kF} (hL : kLen N len) (hx : kXc len xc) (hs : s < N) (hR : kNR (kG N len)) (f : mFd) : ∀ v, v < N → (kSet N len s).2.2.1 v = (mFind N xc s f).2.2.2 v := by
  intro v hv
  have hN24 := hL.1
  have h1 : kFst (kPq len (kRel N len s).1 (kRel N len s).2.1 v) N ((kSet N len s).2.2.1 v) := (kTgU_ok hN24 N (Nat.le_refl N)).2.2 v hv
  obtain ⟨m1, m2⟩ := (mFind_ok hL hx hs hR f v hv).2
  by_cases q : v = s
  · rw [m1 q]
    rcases h1 with ⟨a1, -⟩ | ⟨u, a1, a2, -, -⟩
    · exact a1
    · exfalso
      subst q
      have e0 : (kRel N len v).2.1 v = nI 0 := by
        rcases kRel_ok hL hs hR v hv with ⟨-, -, b3⟩ | ⟨-, k, b2, b3, b4⟩
        · exact absurd (kWk_0 _ v) (b3 0 0)
        · have := b4.2 0 0 (kWk_0 _ v)
          have h2 := hR v k _ b4.1
          have : k = 0 := by omega
          rw [b3, this]
      rcases kRel_ok hL hs hR u a1 with ⟨b1, -⟩ | ⟨-, k, b2, b3, b4⟩
      · exact a2.1 b1
      · have := a2.2.2.2
        rw [b3, e0, nI_1] at this
        have := (nI_eq (a := k + 1) (b := 0) (by omega) (by omega)).mp this
        omega
  · refine kFst_u (fun u hu => ?_) h1 (m2 q)
    have ht := kTight hL hx hs hR f hu hv
    obtain ⟨-, a2, -⟩ := kWays hL hx hs hR f u hu
    obtain ⟨-, b2, -⟩ := kWays hL hx hs hR f v hv
    unfold kPq mPq
    rw [← a2, ← b2]
    constructor
    · intro z
      have := ht.mp ⟨z.1, z.2.1, z.2.2.1⟩
      exact ⟨this.1, this.2.1, this.2.2, z.2.2.2⟩
    · intro z
      have := ht.mpr ⟨z.1, z.2.1, z.2.2.1⟩
      exact ⟨this.1, this.2.1, this.2.2, z.2.2.2⟩
