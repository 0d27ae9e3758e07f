set_option maxHeartbeats 4000000 in
set_option maxRecDepth 100000 in
theorem lm_way {p : Program} {l : Launch} {e : Env} {s : State} {m : MethodId} {args : Array Value} {below : List Frame} {meth : Method} {c : Code} {Q : State → Prop} {D : va_G} {τ : Nat → ClassId} {A : Nat → Prop} (hx : p.tables.exec = Jvm.exec) (hb : c.code = cM_way) (hml : c.maxLocals = 7) (hown : s.vm.findClass RM = some m.cls) (hts : ∀ w ∈ kTbl, w.before args s = true) (hK : va_K D vwCl (kTys τ) s) (hA : ∀ q : Nat, s.heap.size ≤ q → A q) (md : Nat → Nat) (N : Nat) (K : Nat) (ib : Int32) (ch : Int32) (rs : Int32) (xc : Nat → Int32) (sr : Nat → Int32) (xd : Nat → Int32) (xh : Nat → Int32) (xp : Nat → Int32) (xt : Nat → Int32) (xa : Nat → Int32) (vd : Nat → Int32) (vh : Nat → Int32) (vp : Nat → Int32) (lst : Nat → Int32) (fl : Nat → Int32) (fh : Nat → Int32) (fp : Nat → Int32) (mn : Nat → Int32) (qp : Nat → Int32) (qe : Nat → Int32) (rg : Nat → Int32) (z : Nat) (v : Nat) (q : Nat) (M : Nat) (hz : z < 3) (hv : v < 24) (hq : q ≤ M) (hM24 : M < 24) (hMb : ∀ k, k ≤ M → ∃ u, u < 24 ∧ kItr (mWb xp z) k (nI v) = nI u)
    (kx : ∀ (H : Heap) (locs : List Loc) (ls : Array Slot), va_P D vwCl [(md 0, .inr (5, [.int 0, .int (nI N), .ref (md 1), .ref (md 2), .ref (md 3), .ref (md 4), .ref (md 5), .ref (md 6), .ref (md 7), .ref (md 8), .ref (md 9), .ref (md 10), .ref (md 11), .ref (md 12), .ref (md 13), .ref (md 14), .int (nI K), .ref (md 15), .ref (md 16), .ref (md 17), .int ib, .int ch, .int rs, .ref (md 18)])), (md 1, .inl (τ 0, 576, .inl xc)), (md 2, .inl (τ 0, 3, .inl sr)), (md 3, .inl (τ 0, 72, .inl xd)), (md 4, .inl (τ 0, 72, .inl xh)), (md 5, .inl (τ 0, 72, .inl xp)), (md 6, .inl (τ 0, 3, .inl xt)), (md 7, .inl (τ 0, 3, .inl xa)), (md 8, .inl (τ 0, 72, .inl vd)), (md 9, .inl (τ 0, 72, .inl vh)), (md 10, .inl (τ 0, 72, .inl vp)), (md 11, .inl (τ 0, 600, .inl lst)), (md 12, .inl (τ 0, 24, .inl fl)), (md 13, .inl (τ 0, 24, .inl fh)), (md 14, .inl (τ 0, 24, .inl fp)), (md 15, .inl (τ 0, 41, .inl mn)), (md 16, .inl (τ 0, 1230, .inl qp)), (md 17, .inl (τ 0, 1230, .inl qe)), (md 18, .inl (τ 0, 24, .inl rg))] H → va_D A [(md 0, .inr (5, [.int 0, .int (nI N), .ref (md 1), .ref (md 2), .ref (md 3), .ref (md 4), .ref (md 5), .ref (md 6), .ref (md 7), .ref (md 8), .ref (md 9), .ref (md 10), .ref (md 11), .ref (md 12), .ref (md 13), .ref (md 14), .int (nI K), .ref (md 15), .ref (md 16), .ref (md 17), .int ib, .int ch, .int rs, .ref (md 18)])), (md 1, .inl (τ 0, 576, .inl xc)), (md 2, .inl (τ 0, 3, .inl sr)), (md 3, .inl (τ 0, 72, .inl xd)), (md 4, .inl (τ 0, 72, .inl xh)), (md 5, .inl (τ 0, 72, .inl xp)), (md 6, .inl (τ 0, 3, .inl xt)), (md 7, .inl (τ 0, 3, .inl xa)), (md 8, .inl (τ 0, 72, .inl vd)), (md 9, .inl (τ 0, 72, .inl vh)), (md 10, .inl (τ 0, 72, .inl vp)), (md 11, .inl (τ 0, 600, .inl lst)), (md 12, .inl (τ 0, 24, .inl fl)), (md 13, .inl (τ 0, 24, .inl fh)), (md 14, .inl (τ 0, 24, .inl fp)), (md 15, .inl (τ 0, 41, .inl mn)), (md 16, .inl (τ 0, 1230, .inl qp)), (md 17, .inl (τ 0, 1230, .inl qe)), (md 18, .inl (τ 0, 24, .inl rg))] → va_S A s.heap H locs → lv_has ls 7 [(3, .int (nI q)), (4, .int (nI M)), (5, .int (kItr (mWb xp z) (M - q) (nI v)))] → W p l e (headSpec (kWs yM_way cM_way 7 (some .int)) { frames := 3, cells := 0, slots := 0, locals := 65 }).room s m args below meth c H locs 0 0 Q (F0 m 90 ls [])) :
    ∀ (n k : Nat), k + n = M - q → ∀ (H : Heap) (locs : List Loc) (ls : Array Slot), va_P D vwCl [(md 0, .inr (5, [.int 0, .int (nI N), .ref (md 1), .ref (md 2), .ref (md 3), .ref (md 4), .ref (md 5), .ref (md 6), .ref (md 7), .ref (md 8), .ref (md 9), .ref (md 10), .ref (md 11), .ref (md 12), .ref (md 13), .ref (md 14), .int (nI K), .ref (md 15), .ref (md 16), .ref (md 17), .int ib, .int ch, .int rs, .ref (md 18)])), (md 1, .inl (τ 0, 576, .inl xc)), (md 2, .inl (τ 0, 3, .inl sr)), (md 3, .inl (τ 0, 72, .inl xd)), (md 4, .inl (τ 0, 72, .inl xh)), (md 5, .inl (τ 0, 72, .inl xp)), (md 6, .inl (τ 0, 3, .inl xt)), (md 7, .inl (τ 0, 3, .inl xa)), (md 8, .inl (τ 0, 72, .inl vd)), (md 9, .inl (τ 0, 72, .inl vh)), (md 10, .inl (τ 0, 72, .inl vp)), (md 11, .inl (τ 0, 600, .inl lst)), (md 12, .inl (τ 0, 24, .inl fl)), (md 13, .inl (τ 0, 24, .inl fh)), (md 14, .inl (τ 0, 24, .inl fp)), (md 15, .inl (τ 0, 41, .inl mn)), (md 16, .inl (τ 0, 1230, .inl qp)), (md 17, .inl (τ 0, 1230, .inl qe)), (md 18, .inl (τ 0, 24, .inl rg))] H → va_D A [(md 0, .inr (5, [.int 0, .int (nI N), .ref (md 1), .ref (md 2), .ref (md 3), .ref (md 4), .ref (md 5), .ref (md 6), .ref (md 7), .ref (md 8), .ref (md 9), .ref (md 10), .ref (md 11), .ref (md 12), .ref (md 13), .ref (md 14), .int (nI K), .ref (md 15), .ref (md 16), .ref (md 17), .int ib, .int ch, .int rs, .ref (md 18)])), (md 1, .inl (τ 0, 576, .inl xc)), (md 2, .inl (τ 0, 3, .inl sr)), (md 3, .inl (τ 0, 72, .inl xd)), (md 4, .inl (τ 0, 72, .inl xh)), (md 5, .inl (τ 0, 72, .inl xp)), (md 6, .inl (τ 0, 3, .inl xt)), (md 7, .inl (τ 0, 3, .inl xa)), (md 8, .inl (τ 0, 72, .inl vd)), (md 9, .inl (τ 0, 72, .inl vh)), (md 10, .inl (τ 0, 72, .inl vp)), (md 11, .inl (τ 0, 600, .inl lst)), (md 12, .inl (τ 0, 24, .inl fl)), (md 13, .inl (τ 0, 24, .inl fh)), (md 14, .inl (τ 0, 24, .inl fp)), (md 15, .inl (τ 0, 41, .inl mn)), (md 16, .inl (τ 0, 1230, .inl qp)), (md 17, .inl (τ 0, 1230, .inl qe)), (md 18, .inl (τ 0, 24, .inl rg))] → va_S A s.heap H locs → lv_has ls 7 [(0, .ref (md 0)), (1, .int (nI z)), (3, .int (nI q)), (4, .int (nI M)), (5, .int (kItr (mWb xp z) k (nI v))), (6, .int (nI (M - k)))] → W p l e (headSpec (kWs yM_way cM_way 7 (some .int)) { frames := 3, cells := 0, slots := 0, locals := 65 }).room s m args below meth c H locs 0 0 Q (F0 m 60 ls []) := by
  intro n
  induction n with
  | zero =>
    intro k hk H locs ls hP hD hS hl
    have hkN : M - q = k := by omega
    subst hkN
    revert hP hD hl
    generalize hst : (kItr (mWb xp z) (M - q) (nI v)) = y
    intro hP hD hl
    have hP : va_P D vwCl [(md 0, .inr (5, [.int 0, .int (nI N), .ref (md 1), .ref (md 2), .ref (md 3), .ref (md 4), .ref (md 5), .ref (md 6), .ref (md 7), .ref (md 8), .ref (md 9), .ref (md 10), .ref (md 11), .ref (md 12), .ref (md 13), .ref (md 14), .int (nI K), .ref (md 15), .ref (md 16), .ref (md 17), .int ib, .int ch, .int rs, .ref (md 18)])), (md 1, .inl (τ 0, 576, .inl xc)), (md 2, .inl (τ 0, 3, .inl sr)), (md 3, .inl (τ 0, 72, .inl xd)), (md 4, .inl (τ 0, 72, .inl xh)), (md 5, .inl (τ 0, 72, .inl xp)), (md 6, .inl (τ 0, 3, .inl xt)), (md 7, .inl (τ 0, 3, .inl xa)), (md 8, .inl (τ 0, 72, .inl vd)), (md 9, .inl (τ 0, 72, .inl vh)), (md 10, .inl (τ 0, 72, .inl vp)), (md 11, .inl (τ 0, 600, .inl lst)), (md 12, .inl (τ 0, 24, .inl fl)), (md 13, .inl (τ 0, 24, .inl fh)), (md 14, .inl (τ 0, 24, .inl fp)), (md 15, .inl (τ 0, 41, .inl mn)), (md 16, .inl (τ 0, 1230, .inl qp)), (md 17, .inl (τ 0, 1230, .inl qe)), (md 18, .inl (τ 0, 24, .inl rg))] H := hP
    have hD : va_D A [(md 0, .inr (5, [.int 0, .int (nI N), .ref (md 1), .ref (md 2), .ref (md 3), .ref (md 4), .ref (md 5), .ref (md 6), .ref (md 7), .ref (md 8), .ref (md 9), .ref (md 10), .ref (md 11), .ref (md 12), .ref (md 13), .ref (md 14), .int (nI K), .ref (md 15), .ref (md 16), .ref (md 17), .int ib, .int ch, .int rs, .ref (md 18)])), (md 1, .inl (τ 0, 576, .inl xc)), (md 2, .inl (τ 0, 3, .inl sr)), (md 3, .inl (τ 0, 72, .inl xd)), (md 4, .inl (τ 0, 72, .inl xh)), (md 5, .inl (τ 0, 72, .inl xp)), (md 6, .inl (τ 0, 3, .inl xt)), (md 7, .inl (τ 0, 3, .inl xa)), (md 8, .inl (τ 0, 72, .inl vd)), (md 9, .inl (τ 0, 72, .inl vh)), (md 10, .inl (τ 0, 72, .inl vp)), (md 11, .inl (τ 0, 600, .inl lst)), (md 12, .inl (τ 0, 24, .inl fl)), (md 13, .inl (τ 0, 24, .inl fh)), (md 14, .inl (τ 0, 24, .inl fp)), (md 15, .inl (τ 0, 41, .inl mn)), (md 16, .inl (τ 0, 1230, .inl qp)), (md 17, .inl (τ 0, 1230, .inl qe)), (md 18, .inl (τ 0, 24, .inl rg))] := hD
    have hl : lv_has ls 7 [(0, .ref (md 0)), (1, .int (nI z)), (3, .int (nI q)), (4, .int (nI M)), (5, .int y), (6, .int (nI (M - (M - q))))] := hl
    refine lv_iload hx hb dM_way_60 (lv_at hl 5 rfl) ?_
    refine lv_iload_n hx hb dM_way_62 rfl (lv_at hl 2 rfl) ?_
    refine lv_icmp_le (tgt := 90) hx hb dM_way_63 (by decide) (fun c_63 => ?_) (fun c_63 => absurd (nI_le (by omega) (by omega)) c_63)
    exact kx H locs ls (by (try rw [hst]); exact hP) (by (try rw [hst]); exact hD) hS (by (try rw [hst]); exact lv_sub hl [2, 3, 4] rfl)
  | succ n ih =>
    intro k hk H locs ls hP hD hS hl
    have hkN : k < M - q := by omega
    have ih := ih (k + 1) (by omega)
    rw [kItr_s] at ih
    revert hP hD hl ih
    generalize hst : (kItr (mWb xp z) k (nI v)) = y
    intro hP hD hl ih
    have hP : va_P D vwCl [(md 0, .inr (5, [.int 0, .int (nI N), .ref (md 1), .ref (md 2), .ref (md 3), .ref (md 4), .ref (md 5), .ref (md 6), .ref (md 7), .ref (md 8), .ref (md 9), .ref (md 10), .ref (md 11), .ref (md 12), .ref (md 13), .ref (md 14), .int (nI K), .ref (md 15), .ref (md 16), .ref (md 17), .int ib, .int ch, .int rs, .ref (md 18)])), (md 1, .inl (τ 0, 576, .inl xc)), (md 2, .inl (τ 0, 3, .inl sr)), (md 3, .inl (τ 0, 72, .inl xd)), (md 4, .inl (τ 0, 72, .inl xh)), (md 5, .inl (τ 0, 72, .inl xp)), (md 6, .inl (τ 0, 3, .inl xt)), (md 7, .inl (τ 0, 3, .inl xa)), (md 8, .inl (τ 0, 72, .inl vd)), (md 9, .inl (τ 0, 72, .inl vh)), (md 10, .inl (τ 0, 72, .inl vp)), (md 11, .inl (τ 0, 600, .inl lst)), (md 12, .inl (τ 0, 24, .inl fl)), (md 13, .inl (τ 0, 24, .inl fh)), (md 14, .inl (τ 0, 24, .inl fp)), (md 15, .inl (τ 0, 41, .inl mn)), (md 16, .inl (τ 0, 1230, .inl qp)), (md 17, .inl (τ 0, 1230, .inl qe)), (md 18, .inl (τ 0, 24, .inl rg))] H := hP
    have hD : va_D A [(md 0, .inr (5, [.int 0, .int (nI N), .ref (md 1), .ref (md 2), .ref (md 3), .ref (md 4), .ref (md 5), .ref (md 6), .ref (md 7), .ref (md 8), .ref (md 9), .ref (md 10), .ref (md 11), .ref (md 12), .ref (md 13), .ref (md 14), .int (nI K), .ref (md 15), .ref (md 16), .ref (md 17), .int ib, .int ch, .int rs, .ref (md 18)])), (md 1, .inl (τ 0, 576, .inl xc)), (md 2, .inl (τ 0, 3, .inl sr)), (md 3, .inl (τ 0, 72, .inl xd)), (md 4, .inl (τ 0, 72, .inl xh)), (md 5, .inl (τ 0, 72, .inl xp)), (md 6, .inl (τ 0, 3, .inl xt)), (md 7, .inl (τ 0, 3, .inl xa)), (md 8, .inl (τ 0, 72, .inl vd)), (md 9, .inl (τ 0, 72, .inl vh)), (md 10, .inl (τ 0, 72, .inl vp)), (md 11, .inl (τ 0, 600, .inl lst)), (md 12, .inl (τ 0, 24, .inl fl)), (md 13, .inl (τ 0, 24, .inl fh)), (md 14, .inl (τ 0, 24, .inl fp)), (md 15, .inl (τ 0, 41, .inl mn)), (md 16, .inl (τ 0, 1230, .inl qp)), (md 17, .inl (τ 0, 1230, .inl qe)), (md 18, .inl (τ 0, 24, .inl rg))] := hD
    have hl : lv_has ls 7 [(0, .ref (md 0)), (1, .int (nI z)), (3, .int (nI q)), (4, .int (nI M)), (5, .int y), (6, .int (nI (M - k)))] := hl
    refine lv_iload hx hb dM_way_60 (lv_at hl 5 rfl) ?_
    refine lv_iload_n hx hb dM_way_62 rfl (lv_at hl 2 rfl) ?_
    refine lv_icmp_le (tgt := 90) hx hb dM_way_63 (by decide) (fun c_63 => absurd c_63 (nI_ge (by omega) (by omega))) (fun c_63 => ?_)
    refine lv_iload_n hx hb dM_way_66 rfl (lv_at hl 2 rfl) ?_
    refine lv_if_lt (tgt := 90) hx hb dM_way_67 (by decide) (fun c_67 => absurd c_67 (nI_pos (by omega))) (fun c_67 => ?_)
    obtain ⟨u, hu, eu⟩ := hMb k (by omega)
    rw [hst] at eu
    subst eu
    refine lv_aload_n hx hb dM_way_70 rfl (lv_at hl 0 rfl) ?_
    refine va_get (D := D) (ci := 5) (v := .ref (md 5)) (C := RM) (T := TM) (N := 24) hx hb hts iM hown hK hP 0 rfl rfl 6 (by decide) (hts _ w_346) (fun _ h9 => h9) rfl dM_way_71 ?_
    refine lv_bipush (v := 24) hx hb dM_way_74 (by decide) ?_
    refine lv_iload_n hx hb dM_way_76 rfl (lv_at hl 1 rfl) ?_
    refine lv_imul hx hb dM_way_77 ?_
    refine lv_topi (fun y_ ey_ => ?_)
    obtain rfl : y_ = nI (z * 24) := ey_.trans (k_mulL 24 _ rfl)
    refine lv_iload hx hb dM_way_78 (lv_at hl 4 rfl) ?_
    refine lv_iadd hx hb dM_way_80 ?_
    refine lv_topi (fun y_ ey_ => ?_)
    obtain rfl : y_ = nI (z * 24 + u) := ey_.trans (nI_add _ _)
    refine ka_iald (k := z * 24 + u) hx hb hK hP 5 0 rfl rfl (by omega) (by omega) rfl dM_way_81 ?_
    refine lv_istore (lv' := [(5, .int (xp (z * 24 + u))), (0, .ref (md 0)), (1, .int (nI z)), (3, .int (nI q)), (4, .int (nI M)), (6, .int (nI (M - k)))]) hx hb dM_way_82 hl (by decide) rfl (fun ls hl => ?_)
    refine lv_iinc (v := nI (M - (k + 1))) (lv' := [(6, .int (nI (M - (k + 1)))), (5, .int (xp (z * 24 + u))), (0, .ref (md 0)), (1, .int (nI z)), (3, .int (nI q)), (4, .int (nI M))]) hx hb dM_way_84 hl (k := 5) rfl (by rw [show M - (k + 1) = M - k - 1 by omega]; exact sb_m1 (by omega)) (by decide) rfl (fun ls hl => ?_)
    refine lv_goto (tgt := 60) hx hb dM_way_87 (by decide) ?_
    have e_ : (mWb xp z) k (nI u) = (xp (z * 24 + u)) := by unfold mWb; rw [nI_clamp (by omega)]
    (try rw [e_] at ih)
    exact ih H locs ls hP hD hS (lv_sub hl [2, 3, 4, 5, 1, 0] rfl)
set_option maxHeartbeats 20000000 in
set_option maxRecDepth 100000 in
theorem cm_way (l : Launch) (D : va_G) (τ : Nat → ClassId) (md : Nat → Nat) (th : Int32) (N : Nat) (K : Nat) (ib : Int32) (ch : Int32) (rs : Int32) (xc : Nat → Int32) (sr : Nat → Int32) (xd : Nat → Int32) (xh : Nat → Int32) (xp : Nat → Int32) (xt : Nat → Int32) (xa : Nat → Int32) (vd : Nat → Int32) (vh : Nat → Int32) (vp : Nat → Int32) (lst : Nat → Int32) (fl : Nat → Int32) (fh : Nat → Int32) (fp : Nat → Int32) (mn : Nat → Int32) (qp : Nat → Int32) (qe : Nat → Int32) (rg : Nat → Int32) (k : Int32) (v : Int32) (i : Int32) (hN : N ≤ 24) (hsr : ∀ q, q < 3 → sr q < 0 ∨ ∃ j, j < N ∧ sr q = nI j) (hKk : K ≤ 40) (hW : ∀ z v, z < 3 → v < N → xh (z * 24 + v) = (-1000000) ∨ ∃ M, M < 24 ∧ xh (z * 24 + v) = nI M ∧ ∀ k, k ≤ M → ∃ u, u < 24 ∧ kItr (mWb xp z) k (nI v) = nI u) : kMi l D τ yM_way (kWs yM_way cM_way 7 (some .int)) { frames := 3, cells := 0, slots := 0, locals := 65 } [.ref (md 0), .int k, .int v, .int i] [(md 0, .inr (5, [.int th, .int (nI N), .ref (md 1), .ref (md 2), .ref (md 3), .ref (md 4), .ref (md 5), .ref (md 6), .ref (md 7), .ref (md 8), .ref (md 9), .ref (md 10), .ref (md 11), .ref (md 12), .ref (md 13), .ref (md 14), .int (nI K), .ref (md 15), .ref (md 16), .ref (md 17), .int ib, .int ch, .int rs, .ref (md 18)])), (md 1, .inl (τ 0, 576, .inl xc)), (md 2, .inl (τ 0, 3, .inl sr)), (md 3, .inl (τ 0, 72, .inl xd)), (md 4, .inl (τ 0, 72, .inl xh)), (md 5, .inl (τ 0, 72, .inl xp)), (md 6, .inl (τ 0, 3, .inl xt)), (md 7, .inl (τ 0, 3, .inl xa)), (md 8, .inl (τ 0, 72, .inl vd)), (md 9, .inl (τ 0, 72, .inl vh)), (md 10, .inl (τ 0, 72, .inl vp)), (md 11, .inl (τ 0, 600, .inl lst)), (md 12, .inl (τ 0, 24, .inl fl)), (md 13, .inl (τ 0, 24, .inl fh)), (md 14, .inl (τ 0, 24, .inl fp)), (md 15, .inl (τ 0, 41, .inl mn)), (md 16, .inl (τ 0, 1230, .inl qp)), (md 17, .inl (τ 0, 1230, .inl qe)), (md 18, .inl (τ 0, 24, .inl rg))] (gWay ((N, xc, sr), (xd, xh, xp, xt, xa), (vd, vh, vp, lst, fl, fh, fp), (K, mn, qp, qe), (th, ib, ch, rs, rg)) k v i) [(md 0, .inr (5, [.int 0, .int (nI N), .ref (md 1), .ref (md 2), .ref (md 3), .ref (md 4), .ref (md 5), .ref (md 6), .ref (md 7), .ref (md 8), .ref (md 9), .ref (md 10), .ref (md 11), .ref (md 12), .ref (md 13), .ref (md 14), .int (nI K), .ref (md 15), .ref (md 16), .ref (md 17), .int ib, .int ch, .int rs, .ref (md 18)])), (md 1, .inl (τ 0, 576, .inl xc)), (md 2, .inl (τ 0, 3, .inl sr)), (md 3, .inl (τ 0, 72, .inl xd)), (md 4, .inl (τ 0, 72, .inl xh)), (md 5, .inl (τ 0, 72, .inl xp)), (md 6, .inl (τ 0, 3, .inl xt)), (md 7, .inl (τ 0, 3, .inl xa)), (md 8, .inl (τ 0, 72, .inl vd)), (md 9, .inl (τ 0, 72, .inl vh)), (md 10, .inl (τ 0, 72, .inl vp)), (md 11, .inl (τ 0, 600, .inl lst)), (md 12, .inl (τ 0, 24, .inl fl)), (md 13, .inl (τ 0, 24, .inl fh)), (md 14, .inl (τ 0, 24, .inl fp)), (md 15, .inl (τ 0, 41, .inl mn)), (md 16, .inl (τ 0, 1230, .inl qp)), (md 17, .inl (τ 0, 1230, .inl qe)), (md 18, .inl (τ 0, 24, .inl rg))] := by
  intro sz
  refine Met.ofW (cc := cM_way) (maxL := 7) (ret := (some .int)) (by decide) rfl ?_
  intro p e s m args below meth c s₁ B hml hv
  obtain ⟨rfl, hsz, hP, hK, hD0⟩ := hv
  have hx := B.exec
  have hb := B.bytes
  have hr := B.returns
  have hts := fun w (hw : w ∈ kTbl) => atoms_spec (ws := (kWs yM_way cM_way 7 (some .int))) B.pre w (List.mem_cons_of_mem _ hw)
  have hown : s.vm.findClass RM = some m.cls := findClass_of_methodNamed B.named
  have hlocks := B.notSynchronized
  subst hsz
  have hD := hD0.self (sz := s.heap.size)
  generalize hAe : va_A [(md 0, .inr (5, [.int th, .int (nI N), .ref (md 1), .ref (md 2), .ref (md 3), .ref (md 4), .ref (md 5), .ref (md 6), .ref (md 7), .ref (md 8), .ref (md 9), .ref (md 10), .ref (md 11), .ref (md 12), .ref (md 13), .ref (md 14), .int (nI K), .ref (md 15), .ref (md 16), .ref (md 17), .int ib, .int ch, .int rs, .ref (md 18)])), (md 1, .inl (τ 0, 576, .inl xc)), (md 2, .inl (τ 0, 3, .inl sr)), (md 3, .inl (τ 0, 72, .inl xd)), (md 4, .inl (τ 0, 72, .inl xh)), (md 5, .inl (τ 0, 72, .inl xp)), (md 6, .inl (τ 0, 3, .inl xt)), (md 7, .inl (τ 0, 3, .inl xa)), (md 8, .inl (τ 0, 72, .inl vd)), (md 9, .inl (τ 0, 72, .inl vh)), (md 10, .inl (τ 0, 72, .inl vp)), (md 11, .inl (τ 0, 600, .inl lst)), (md 12, .inl (τ 0, 24, .inl fl)), (md 13, .inl (τ 0, 24, .inl fh)), (md 14, .inl (τ 0, 24, .inl fp)), (md 15, .inl (τ 0, 41, .inl mn)), (md 16, .inl (τ 0, 1230, .inl qp)), (md 17, .inl (τ 0, 1230, .inl qe)), (md 18, .inl (τ 0, 24, .inl rg))] s.heap.size = A at hD ⊢
  have hA : ∀ q : Nat, s.heap.size ≤ q → A q := fun q h => by rw [← hAe]; exact Or.inr h
  have hS : va_S A s.heap s.heap [] := va_S.rf
  have hP : va_P D vwCl [(md 0, .inr (5, [.int th, .int (nI N), .ref (md 1), .ref (md 2), .ref (md 3), .ref (md 4), .ref (md 5), .ref (md 6), .ref (md 7), .ref (md 8), .ref (md 9), .ref (md 10), .ref (md 11), .ref (md 12), .ref (md 13), .ref (md 14), .int (nI K), .ref (md 15), .ref (md 16), .ref (md 17), .int ib, .int ch, .int rs, .ref (md 18)])), (md 1, .inl (τ 0, 576, .inl xc)), (md 2, .inl (τ 0, 3, .inl sr)), (md 3, .inl (τ 0, 72, .inl xd)), (md 4, .inl (τ 0, 72, .inl xh)), (md 5, .inl (τ 0, 72, .inl xp)), (md 6, .inl (τ 0, 3, .inl xt)), (md 7, .inl (τ 0, 3, .inl xa)), (md 8, .inl (τ 0, 72, .inl vd)), (md 9, .inl (τ 0, 72, .inl vh)), (md 10, .inl (τ 0, 72, .inl vp)), (md 11, .inl (τ 0, 600, .inl lst)), (md 12, .inl (τ 0, 24, .inl fl)), (md 13, .inl (τ 0, 24, .inl fh)), (md 14, .inl (τ 0, 24, .inl fp)), (md 15, .inl (τ 0, 41, .inl mn)), (md 16, .inl (τ 0, 1230, .inl qp)), (md 17, .inl (τ 0, 1230, .inl qe)), (md 18, .inl (τ 0, 24, .inl rg))] s.heap := hP
  have hl := lv_entry ([.ref (md 0), .int k, .int v, .int i]) (n := 7) (Nat.le_of_ble_eq_true rfl)
  rw [lg_entry_eq]
  generalize (lg_sl ([.ref (md 0), .int k, .int v, .int i]) ++ List.replicate (7 - (lg_sl ([.ref (md 0), .int k, .int v, .int i])).length) Slot.unset).toArray = ls at hl ⊢
  have hl : lv_has ls 7 [(0, .ref (md 0)), (1, .int k), (2, .int v), (3, .int i)] := hl
  skip
  refine lv_aload_n hx hb dM_way_0 rfl (lv_at hl 0 rfl) ?_
  refine lv_iconst (v := 0) hx hb dM_way_1 (by decide) ?_
  refine va_put (D := D) (ci := 5) (v := .int 0) (ty := .int) (C := RM) (T := TM) (N := 24) hx hb hts iM tyM tyM_ok nmM hown hK hP hD hS 0 rfl rfl 0 (by decide) (hts _ w_340) (fun _ h9 => h9) rfl (by decide +kernel) rfl rfl (Nat.le_of_ble_eq_true rfl) dM_way_2 (fun H locs hP hD hS => ?_)
  have hP : va_P D vwCl [(md 0, .inr (5, [.int 0, .int (nI N), .ref (md 1), .ref (md 2), .ref (md 3), .ref (md 4), .ref (md 5), .ref (md 6), .ref (md 7), .ref (md 8), .ref (md 9), .ref (md 10), .ref (md 11), .ref (md 12), .ref (md 13), .ref (md 14), .int (nI K), .ref (md 15), .ref (md 16), .ref (md 17), .int ib, .int ch, .int rs, .ref (md 18)])), (md 1, .inl (τ 0, 576, .inl xc)), (md 2, .inl (τ 0, 3, .inl sr)), (md 3, .inl (τ 0, 72, .inl xd)), (md 4, .inl (τ 0, 72, .inl xh)), (md 5, .inl (τ 0, 72, .inl xp)), (md 6, .inl (τ 0, 3, .inl xt)), (md 7, .inl (τ 0, 3, .inl xa)), (md 8, .inl (τ 0, 72, .inl vd)), (md 9, .inl (τ 0, 72, .inl vh)), (md 10, .inl (τ 0, 72, .inl vp)), (md 11, .inl (τ 0, 600, .inl lst)), (md 12, .inl (τ 0, 24, .inl fl)), (md 13, .inl (τ 0, 24, .inl fh)), (md 14, .inl (τ 0, 24, .inl fp)), (md 15, .inl (τ 0, 41, .inl mn)), (md 16, .inl (τ 0, 1230, .inl qp)), (md 17, .inl (τ 0, 1230, .inl qe)), (md 18, .inl (τ 0, 24, .inl rg))] H := hP
  have hD : va_D A [(md 0, .inr (5, [.int 0, .int (nI N), .ref (md 1), .ref (md 2), .ref (md 3), .ref (md 4), .ref (md 5), .ref (md 6), .ref (md 7), .ref (md 8), .ref (md 9), .ref (md 10), .ref (md 11), .ref (md 12), .ref (md 13), .ref (md 14), .int (nI K), .ref (md 15), .ref (md 16), .ref (md 17), .int ib, .int ch, .int rs, .ref (md 18)])), (md 1, .inl (τ 0, 576, .inl xc)), (md 2, .inl (τ 0, 3, .inl sr)), (md 3, .inl (τ 0, 72, .inl xd)), (md 4, .inl (τ 0, 72, .inl xh)), (md 5, .inl (τ 0, 72, .inl xp)), (md 6, .inl (τ 0, 3, .inl xt)), (md 7, .inl (τ 0, 3, .inl xa)), (md 8, .inl (τ 0, 72, .inl vd)), (md 9, .inl (τ 0, 72, .inl vh)), (md 10, .inl (τ 0, 72, .inl vp)), (md 11, .inl (τ 0, 600, .inl lst)), (md 12, .inl (τ 0, 24, .inl fl)), (md 13, .inl (τ 0, 24, .inl fh)), (md 14, .inl (τ 0, 24, .inl fp)), (md 15, .inl (τ 0, 41, .inl mn)), (md 16, .inl (τ 0, 1230, .inl qp)), (md 17, .inl (τ 0, 1230, .inl qe)), (md 18, .inl (τ 0, 24, .inl rg))] := hD
  refine lv_aload_n hx hb dM_way_5 rfl (lv_at hl 0 rfl) ?_
  refine lv_iload_n hx hb dM_way_6 rfl (lv_at hl 1 rfl) ?_
  refine lv_iload_n hx hb dM_way_7 rfl (lv_at hl 2 rfl) ?_
  refine kc_Vi (As := [.int k, .int v]) (rest := []) (wr := [(md 1, .inl (τ 0, 576, .inl xc)), (md 2, .inl (τ 0, 3, .inl sr)), (md 3, .inl (τ 0, 72, .inl xd)), (md 4, .inl (τ 0, 72, .inl xh)), (md 5, .inl (τ 0, 72, .inl xp)), (md 6, .inl (τ 0, 3, .inl xt)), (md 7, .inl (τ 0, 3, .inl xa)), (md 8, .inl (τ 0, 72, .inl vd)), (md 9, .inl (τ 0, 72, .inl vh)), (md 10, .inl (τ 0, 72, .inl vp)), (md 11, .inl (τ 0, 600, .inl lst)), (md 12, .inl (τ 0, 24, .inl fl)), (md 13, .inl (τ 0, 24, .inl fh)), (md 14, .inl (τ 0, 24, .inl fp)), (md 15, .inl (τ 0, 41, .inl mn)), (md 16, .inl (τ 0, 1230, .inl qp)), (md 17, .inl (τ 0, 1230, .inl qe)), (md 18, .inl (τ 0, 24, .inl rg))]) (W1 := [(md 0, .inr (5, [.int 0, .int (nI N), .ref (md 1), .ref (md 2), .ref (md 3), .ref (md 4), .ref (md 5), .ref (md 6), .ref (md 7), .ref (md 8), .ref (md 9), .ref (md 10), .ref (md 11), .ref (md 12), .ref (md 13), .ref (md 14), .int (nI K), .ref (md 15), .ref (md 16), .ref (md 17), .int ib, .int ch, .int rs, .ref (md 18)])), (md 1, .inl (τ 0, 576, .inl xc)), (md 2, .inl (τ 0, 3, .inl sr)), (md 3, .inl (τ 0, 72, .inl xd)), (md 4, .inl (τ 0, 72, .inl xh)), (md 5, .inl (τ 0, 72, .inl xp)), (md 6, .inl (τ 0, 3, .inl xt)), (md 7, .inl (τ 0, 3, .inl xa)), (md 8, .inl (τ 0, 72, .inl vd)), (md 9, .inl (τ 0, 72, .inl vh)), (md 10, .inl (τ 0, 72, .inl vp)), (md 11, .inl (τ 0, 600, .inl lst)), (md 12, .inl (τ 0, 24, .inl fl)), (md 13, .inl (τ 0, 24, .inl fh)), (md 14, .inl (τ 0, 24, .inl fp)), (md 15, .inl (τ 0, 41, .inl mn)), (md 16, .inl (τ 0, 1230, .inl qp)), (md 17, .inl (τ 0, 1230, .inl qe)), (md 18, .inl (τ 0, 24, .inl rg))]) ⟨hx, hb, hml, hown, hts⟩ (cm_bad l D τ md 0 N K ib ch rs k v ) (kcwV hts qM_isBad w_476 rfl rfl ⟨Nat.le_of_ble_eq_true rfl, Nat.le_of_ble_eq_true rfl⟩) hK hP hD hS hA [0] [1, 2, 3, 4, 5, 6, 7, 8, 9, 10, 11, 12, 13, 14, 15, 16, 17, 18] [18, 0, 1, 2, 3, 4, 5, 6, 7, 8, 9, 10, 11, 12, 13, 14, 15, 16, 17] rfl rfl (by decide) (by decide) (by decide) rfl rfl rfl (by decide) hl.1 rfl rfl (Nat.le_of_ble_eq_true rfl) ⟨Nat.zero_le _, Nat.zero_le _⟩ dM_way_8 (fun H locs hP hD hS => ?_)
  refine lv_if_eq (tgt := 17) hx hb dM_way_11 (by decide) (fun c_11 => ?_) (fun c_11 => ?_)
  · skip
    have c_11 := kB_0.mp c_11
    have ng := Classical.not_not.mp c_11
    obtain ⟨z, hz, rfl⟩ := mIn3 ng.1
    obtain ⟨u, hu, rfl⟩ := mNode_n hN ng.2
    refine lv_aload_n hx hb dM_way_17 rfl (lv_at hl 0 rfl) ?_
    refine va_get (D := D) (ci := 5) (v := .ref (md 4)) (C := RM) (T := TM) (N := 24) hx hb hts iM hown hK hP 0 rfl rfl 5 (by decide) (hts _ w_345) (fun _ h9 => h9) rfl dM_way_18 ?_
    refine lv_bipush (v := 24) hx hb dM_way_21 (by decide) ?_
    refine lv_iload_n hx hb dM_way_23 rfl (lv_at hl 1 rfl) ?_
    refine lv_imul hx hb dM_way_24 ?_
    refine lv_topi (fun y_ ey_ => ?_)
    obtain rfl : y_ = nI (z * 24) := ey_.trans (k_mulL 24 _ rfl)
    refine lv_iload_n hx hb dM_way_25 rfl (lv_at hl 2 rfl) ?_
    refine lv_iadd hx hb dM_way_26 ?_
    refine lv_topi (fun y_ ey_ => ?_)
    obtain rfl : y_ = nI (z * 24 + u) := ey_.trans (nI_add _ _)
    refine ka_iald (k := z * 24 + u) hx hb hK hP 4 0 rfl rfl (by omega) (by omega) rfl dM_way_27 ?_
    refine lv_istore (lv' := [(4, .int (xh (z * 24 + u))), (0, .ref (md 0)), (1, .int (nI z)), (2, .int (nI u)), (3, .int i)]) hx hb dM_way_28 hl (by decide) rfl (fun ls hl => ?_)
    refine lv_iload hx hb dM_way_30 (lv_at hl 0 rfl) ?_
    refine lv_ldc (v := (-1000000)) hx hb hown (hts _ w_335) dM_way_32 ?_
    refine lv_icmp_ne (tgt := 40) hx hb dM_way_34 (by decide) (fun c_34 => ?_) (fun c_34 => ?_)
    · skip
      obtain ⟨M, hM24, hM1, hMb⟩ := (hW z u hz hu).resolve_left c_34
      refine lv_iload_n hx hb dM_way_40 rfl (lv_at hl 4 rfl) ?_
      refine lv_iconst (v := (-1)) hx hb dM_way_41 (by decide) ?_
      refine lv_iload hx hb dM_way_42 (lv_at hl 0 rfl) ?_
      refine kc_Si (As := [.int i, .int (-1), .int (xh (z * 24 + u))]) (rest := []) (wr := [(md 0, .inr (5, [.int 0, .int (nI N), .ref (md 1), .ref (md 2), .ref (md 3), .ref (md 4), .ref (md 5), .ref (md 6), .ref (md 7), .ref (md 8), .ref (md 9), .ref (md 10), .ref (md 11), .ref (md 12), .ref (md 13), .ref (md 14), .int (nI K), .ref (md 15), .ref (md 16), .ref (md 17), .int ib, .int ch, .int rs, .ref (md 18)])), (md 1, .inl (τ 0, 576, .inl xc)), (md 2, .inl (τ 0, 3, .inl sr)), (md 3, .inl (τ 0, 72, .inl xd)), (md 4, .inl (τ 0, 72, .inl xh)), (md 5, .inl (τ 0, 72, .inl xp)), (md 6, .inl (τ 0, 3, .inl xt)), (md 7, .inl (τ 0, 3, .inl xa)), (md 8, .inl (τ 0, 72, .inl vd)), (md 9, .inl (τ 0, 72, .inl vh)), (md 10, .inl (τ 0, 72, .inl vp)), (md 11, .inl (τ 0, 600, .inl lst)), (md 12, .inl (τ 0, 24, .inl fl)), (md 13, .inl (τ 0, 24, .inl fh)), (md 14, .inl (τ 0, 24, .inl fp)), (md 15, .inl (τ 0, 41, .inl mn)), (md 16, .inl (τ 0, 1230, .inl qp)), (md 17, .inl (τ 0, 1230, .inl qe)), (md 18, .inl (τ 0, 24, .inl rg))]) (W1 := [(md 0, .inr (5, [.int 0, .int (nI N), .ref (md 1), .ref (md 2), .ref (md 3), .ref (md 4), .ref (md 5), .ref (md 6), .ref (md 7), .ref (md 8), .ref (md 9), .ref (md 10), .ref (md 11), .ref (md 12), .ref (md 13), .ref (md 14), .int (nI K), .ref (md 15), .ref (md 16), .ref (md 17), .int ib, .int ch, .int rs, .ref (md 18)])), (md 1, .inl (τ 0, 576, .inl xc)), (md 2, .inl (τ 0, 3, .inl sr)), (md 3, .inl (τ 0, 72, .inl xd)), (md 4, .inl (τ 0, 72, .inl xh)), (md 5, .inl (τ 0, 72, .inl xp)), (md 6, .inl (τ 0, 3, .inl xt)), (md 7, .inl (τ 0, 3, .inl xa)), (md 8, .inl (τ 0, 72, .inl vd)), (md 9, .inl (τ 0, 72, .inl vh)), (md 10, .inl (τ 0, 72, .inl vp)), (md 11, .inl (τ 0, 600, .inl lst)), (md 12, .inl (τ 0, 24, .inl fl)), (md 13, .inl (τ 0, 24, .inl fh)), (md 14, .inl (τ 0, 24, .inl fp)), (md 15, .inl (τ 0, 41, .inl mn)), (md 16, .inl (τ 0, 1230, .inl qp)), (md 17, .inl (τ 0, 1230, .inl qe)), (md 18, .inl (τ 0, 24, .inl rg))]) ⟨hx, hb, hml, hown, hts⟩ (cm_in l D τ i (-1) (xh (z * 24 + u)) ) (kcwS hts qM_in w_423 rfl rfl ⟨Nat.le_of_ble_eq_true rfl, Nat.le_of_ble_eq_true rfl⟩) hK hP hD hS hA [] [0, 1, 2, 3, 4, 5, 6, 7, 8, 9, 10, 11, 12, 13, 14, 15, 16, 17, 18] [0, 1, 2, 3, 4, 5, 6, 7, 8, 9, 10, 11, 12, 13, 14, 15, 16, 17, 18] rfl rfl (by decide) (by decide) (by decide) rfl (by decide) hl.1 rfl rfl (Nat.le_of_ble_eq_true rfl) ⟨Nat.zero_le _, Nat.zero_le _⟩ dM_way_44 (fun H locs hP hD hS => ?_)
      refine lv_if_ne (tgt := 53) hx hb dM_way_47 (by decide) (fun c_47 => ?_) (fun c_47 => ?_)
      · skip
        have c_47 := kB_1.mp c_47
        rcases Classical.em (i < 0) with hi0 | hi0
        · skip
          refine lv_iload_n hx hb dM_way_53 rfl (lv_at hl 3 rfl) ?_
          refine lv_istore (lv' := [(5, .int (nI u)), (4, .int (xh (z * 24 + u))), (0, .ref (md 0)), (1, .int (nI z)), (2, .int (nI u)), (3, .int i)]) hx hb dM_way_54 hl (by decide) rfl (fun ls hl => ?_)
          refine lv_iload hx hb dM_way_56 (lv_at hl 1 rfl) ?_
          refine lv_istore (lv' := [(6, .int (xh (z * 24 + u))), (5, .int (nI u)), (4, .int (xh (z * 24 + u))), (0, .ref (md 0)), (1, .int (nI z)), (2, .int (nI u)), (3, .int i)]) hx hb dM_way_58 hl (by decide) rfl (fun ls hl => ?_)
          refine lv_iload hx hb dM_way_60 (lv_at hl 0 rfl) ?_
          refine lv_iload_n hx hb dM_way_62 rfl (lv_at hl 6 rfl) ?_
          refine lv_icmp_le (tgt := 90) hx hb dM_way_63 (by decide) (fun c_63 => absurd c_63 (fun q9 => absurd (Int32.lt_of_le_of_lt q9 hi0) (by rw [hM1]; exact nI_pos (by omega)))) (fun c_63 => ?_)
          refine lv_iload_n hx hb dM_way_66 rfl (lv_at hl 6 rfl) ?_
          refine lv_if_lt (tgt := 90) hx hb dM_way_67 (by decide) (fun c_67 => ?_) (fun c_67 => absurd hi0 c_67)
          refine lv_iload_n hx hb dM_way_90 rfl (lv_at hl 6 rfl) ?_
          refine lv_if_ge (tgt := 101) hx hb dM_way_91 (by decide) (fun c_91 => absurd hi0 (Int32.not_lt.mpr c_91)) (fun c_91 => ?_)
          refine lv_iload hx hb dM_way_94 (lv_at hl 2 rfl) ?_
          refine lv_iconst (v := 1) hx hb dM_way_96 (by decide) ?_
          refine lv_iadd hx hb dM_way_97 ?_
          refine lv_goto (tgt := 103) hx hb dM_way_98 (by decide) ?_
          exact k_iret hx hb hr hlocks hK hS (by unfold gWay mGood mNode; dsimp only; rw [nI_clamp (n := z) (by omega), nI_clamp (n := u) (by omega), kIf_t ng]; unfold mWay; rw [kIf_f c_34]; rw [kIf_t c_47]; rw [kIf_t hi0, hM1]) hP hD dM_way_103
        · skip
          obtain ⟨q, hq, rfl⟩ := mWayI hi0 c_47.2 hM1 hM24
          refine lv_iload_n hx hb dM_way_53 rfl (lv_at hl 3 rfl) ?_
          refine lv_istore (lv' := [(5, .int (nI u)), (4, .int (xh (z * 24 + u))), (0, .ref (md 0)), (1, .int (nI z)), (2, .int (nI u)), (3, .int (nI q))]) hx hb dM_way_54 hl (by decide) rfl (fun ls hl => ?_)
          rw [hM1] at hl
          refine lv_iload hx hb dM_way_56 (lv_at hl 1 rfl) ?_
          refine lv_istore (lv' := [(6, .int (nI M)), (5, .int (nI u)), (4, .int (nI M)), (0, .ref (md 0)), (1, .int (nI z)), (2, .int (nI u)), (3, .int (nI q))]) hx hb dM_way_58 hl (by decide) rfl (fun ls hl => ?_)
          refine lm_way hx hb hml hown hts hK hA md N K ib ch rs xc sr xd xh xp xt xa vd vh vp lst fl fh fp mn qp qe rg z u q M (by first | assumption | omega) (by first | assumption | omega) (by first | assumption | omega) (by first | assumption | omega) (by first | assumption | omega) (fun H locs ls hP hD hS hl => ?_) (M - q) 0 (by omega) _ _ ls hP hD hS (lv_sub hl [3, 4, 6, 2, 1, 0] rfl)
          refine lv_iload_n hx hb dM_way_90 rfl (lv_at hl 0 rfl) ?_
          refine lv_if_ge (tgt := 101) hx hb dM_way_91 (by decide) (fun c_91 => ?_) (fun c_91 => absurd (nI_pos' (by omega)) c_91)
          refine lv_iload hx hb dM_way_101 (lv_at hl 2 rfl) ?_
          exact k_iret hx hb hr hlocks hK hS (by unfold gWay mGood mNode; dsimp only; rw [nI_clamp (n := z) (by omega), nI_clamp (n := u) (by omega), kIf_t ng]; unfold mWay; rw [kIf_f c_34]; rw [kIf_t c_47]; rw [kIf_f (nI_pos (by omega)), nI_clamp (n := q) (by omega), hM1, nI_clamp (n := M) (by omega)]) hP hD dM_way_103
      · skip
        have c_47 := kB_0.mp c_47
        refine lv_ldc (v := (-2000000)) hx hb hown (hts _ w_426) dM_way_50 ?_
        exact k_iret hx hb hr hlocks hK hS (by unfold gWay mGood mNode; dsimp only; rw [nI_clamp (n := z) (by omega), nI_clamp (n := u) (by omega), kIf_t ng]; unfold mWay; rw [kIf_f c_34]; exact (kIf_f c_47).symm) hP hD dM_way_52
    · skip
      refine lv_ldc (v := (-1000000)) hx hb hown (hts _ w_335) dM_way_37 ?_
      exact k_iret hx hb hr hlocks hK hS (by unfold gWay mGood mNode; dsimp only; rw [nI_clamp (n := z) (by omega), nI_clamp (n := u) (by omega), kIf_t ng]; unfold mWay; exact (kIf_t c_34).symm) hP hD dM_way_39
  · skip
    have c_11 := kB_1.mp c_11
    refine lv_ldc (v := (-2000000)) hx hb hown (hts _ w_426) dM_way_14 ?_
    exact k_iret hx hb hr hlocks hK hS (by unfold gWay mGood mNode; exact (kIf_f c_11).symm) hP hD dM_way_16
set_option maxHeartbeats 20000000 in
set_option maxRecDepth 100000 in
theorem cm_ringq (l : Launch) (D : va_G) (τ : Nat → ClassId) (md : Nat → Nat) (th : Int32) (N : Nat) (K : Nat) (ib : Int32) (ch : Int32) (rs : Int32) (xc : Nat → Int32) (sr : Nat → Int32) (xd : Nat → Int32) (xh : Nat → Int32) (xp : Nat → Int32) (xt : Nat → Int32) (xa : Nat → Int32) (vd : Nat → Int32) (vh : Nat → Int32) (vp : Nat → Int32) (lst : Nat → Int32) (fl : Nat → Int32) (fh : Nat → Int32) (fp : Nat → Int32) (mn : Nat → Int32) (qp : Nat → Int32) (qe : Nat → Int32) (rg : Nat → Int32) (i : Int32) (hN : N ≤ 24) (hsr : ∀ q, q < 3 → sr q < 0 ∨ ∃ j, j < N ∧ sr q = nI j) (hKk : K ≤ 40) (hR : ∃ M, M ≤ 24 ∧ rs = nI M) : kMi l D τ yM_ring (kWs yM_ring cM_ring 2 (some .int)) { frames := 1, cells := 0, slots := 0, locals := 22 } [.ref (md 0), .int i] [(md 0, .inr (5, [.int th, .int (nI N), .ref (md 1), .ref (md 2), .ref (md 3), .ref (md 4), .ref (md 5), .ref (md 6), .ref (md 7), .ref (md 8), .ref (md 9), .ref (md 10), .ref (md 11), .ref (md 12), .ref (md 13), .ref (md 14), .int (nI K), .ref (md 15), .ref (md 16), .ref (md 17), .int ib, .int ch, .int rs, .ref (md 18)])), (md 1, .inl (τ 0, 576, .inl xc)), (md 2, .inl (τ 0, 3, .inl sr)), (md 3, .inl (τ 0, 72, .inl xd)), (md 4, .inl (τ 0, 72, .inl xh)), (md 5, .inl (τ 0, 72, .inl xp)), (md 6, .inl (τ 0, 3, .inl xt)), (md 7, .inl (τ 0, 3, .inl xa)), (md 8, .inl (τ 0, 72, .inl vd)), (md 9, .inl (τ 0, 72, .inl vh)), (md 10, .inl (τ 0, 72, .inl vp)), (md 11, .inl (τ 0, 600, .inl lst)), (md 12, .inl (τ 0, 24, .inl fl)), (md 13, .inl (τ 0, 24, .inl fh)), (md 14, .inl (τ 0, 24, .inl fp)), (md 15, .inl (τ 0, 41, .inl mn)), (md 16, .inl (τ 0, 1230, .inl qp)), (md 17, .inl (τ 0, 1230, .inl qe)), (md 18, .inl (τ 0, 24, .inl rg))] (gRing ((N, xc, sr), (xd, xh, xp, xt, xa), (vd, vh, vp, lst, fl, fh, fp), (K, mn, qp, qe), (th, ib, ch, rs, rg)) i) [(md 0, .inr (5, [.int 0, .int (nI N), .ref (md 1), .ref (md 2), .ref (md 3), .ref (md 4), .ref (md 5), .ref (md 6), .ref (md 7), .ref (md 8), .ref (md 9), .ref (md 10), .ref (md 11), .ref (md 12), .ref (md 13), .ref (md 14), .int (nI K), .ref (md 15), .ref (md 16), .ref (md 17), .int ib, .int ch, .int rs, .ref (md 18)])), (md 1, .inl (τ 0, 576, .inl xc)), (md 2, .inl (τ 0, 3, .inl sr)), (md 3, .inl (τ 0, 72, .inl xd)), (md 4, .inl (τ 0, 72, .inl xh)), (md 5, .inl (τ 0, 72, .inl xp)), (md 6, .inl (τ 0, 3, .inl xt)), (md 7, .inl (τ 0, 3, .inl xa)), (md 8, .inl (τ 0, 72, .inl vd)), (md 9, .inl (τ 0, 72, .inl vh)), (md 10, .inl (τ 0, 72, .inl vp)), (md 11, .inl (τ 0, 600, .inl lst)), (md 12, .inl (τ 0, 24, .inl fl)), (md 13, .inl (τ 0, 24, .inl fh)), (md 14, .inl (τ 0, 24, .inl fp)), (md 15, .inl (τ 0, 41, .inl mn)), (md 16, .inl (τ 0, 1230, .inl qp)), (md 17, .inl (τ 0, 1230, .inl qe)), (md 18, .inl (τ 0, 24, .inl rg))] := by
  intro sz
  refine Met.ofW (cc := cM_ring) (maxL := 2) (ret := (some .int)) (by decide) rfl ?_
  intro p e s m args below meth c s₁ B hml hv
  obtain ⟨rfl, hsz, hP, hK, hD0⟩ := hv
  have hx := B.exec
  have hb := B.bytes
  have hr := B.returns
  have hts := fun w (hw : w ∈ kTbl) => atoms_spec (ws := (kWs yM_ring cM_ring 2 (some .int))) B.pre w (List.mem_cons_of_mem _ hw)
  have hown : s.vm.findClass RM = some m.cls := findClass_of_methodNamed B.named
  have hlocks := B.notSynchronized
  subst hsz
  have hD := hD0.self (sz := s.heap.size)
  generalize hAe : va_A [(md 0, .inr (5, [.int th, .int (nI N), .ref (md 1), .ref (md 2), .ref (md 3), .ref (md 4), .ref (md 5), .ref (md 6), .ref (md 7), .ref (md 8), .ref (md 9), .ref (md 10), .ref (md 11), .ref (md 12), .ref (md 13), .ref (md 14), .int (nI K), .ref (md 15), .ref (md 16), .ref (md 17), .int ib, .int ch, .int rs, .ref (md 18)])), (md 1, .inl (τ 0, 576, .inl xc)), (md 2, .inl (τ 0, 3, .inl sr)), (md 3, .inl (τ 0, 72, .inl xd)), (md 4, .inl (τ 0, 72, .inl xh)), (md 5, .inl (τ 0, 72, .inl xp)), (md 6, .inl (τ 0, 3, .inl xt)), (md 7, .inl (τ 0, 3, .inl xa)), (md 8, .inl (τ 0, 72, .inl vd)), (md 9, .inl (τ 0, 72, .inl vh)), (md 10, .inl (τ 0, 72, .inl vp)), (md 11, .inl (τ 0, 600, .inl lst)), (md 12, .inl (τ 0, 24, .inl fl)), (md 13, .inl (τ 0, 24, .inl fh)), (md 14, .inl (τ 0, 24, .inl fp)), (md 15, .inl (τ 0, 41, .inl mn)), (md 16, .inl (τ 0, 1230, .inl qp)), (md 17, .inl (τ 0, 1230, .inl qe)), (md 18, .inl (τ 0, 24, .inl rg))] s.heap.size = A at hD ⊢
  have hA : ∀ q : Nat, s.heap.size ≤ q → A q := fun q h => by rw [← hAe]; exact Or.inr h
  have hS : va_S A s.heap s.heap [] := va_S.rf
  have hP : va_P D vwCl [(md 0, .inr (5, [.int th, .int (nI N), .ref (md 1), .ref (md 2), .ref (md 3), .ref (md 4), .ref (md 5), .ref (md 6), .ref (md 7), .ref (md 8), .ref (md 9), .ref (md 10), .ref (md 11), .ref (md 12), .ref (md 13), .ref (md 14), .int (nI K), .ref (md 15), .ref (md 16), .ref (md 17), .int ib, .int ch, .int rs, .ref (md 18)])), (md 1, .inl (τ 0, 576, .inl xc)), (md 2, .inl (τ 0, 3, .inl sr)), (md 3, .inl (τ 0, 72, .inl xd)), (md 4, .inl (τ 0, 72, .inl xh)), (md 5, .inl (τ 0, 72, .inl xp)), (md 6, .inl (τ 0, 3, .inl xt)), (md 7, .inl (τ 0, 3, .inl xa)), (md 8, .inl (τ 0, 72, .inl vd)), (md 9, .inl (τ 0, 72, .inl vh)), (md 10, .inl (τ 0, 72, .inl vp)), (md 11, .inl (τ 0, 600, .inl lst)), (md 12, .inl (τ 0, 24, .inl fl)), (md 13, .inl (τ 0, 24, .inl fh)), (md 14, .inl (τ 0, 24, .inl fp)), (md 15, .inl (τ 0, 41, .inl mn)), (md 16, .inl (τ 0, 1230, .inl qp)), (md 17, .inl (τ 0, 1230, .inl qe)), (md 18, .inl (τ 0, 24, .inl rg))] s.heap := hP
  have hl := lv_entry ([.ref (md 0), .int i]) (n := 2) (Nat.le_of_ble_eq_true rfl)
  rw [lg_entry_eq]
  generalize (lg_sl ([.ref (md 0), .int i]) ++ List.replicate (2 - (lg_sl ([.ref (md 0), .int i])).length) Slot.unset).toArray = ls at hl ⊢
  have hl : lv_has ls 2 [(0, .ref (md 0)), (1, .int i)] := hl
  skip
  refine lv_aload_n hx hb dM_ring_0 rfl (lv_at hl 0 rfl) ?_
  refine lv_iconst (v := 0) hx hb dM_ring_1 (by decide) ?_
  refine va_put (D := D) (ci := 5) (v := .int 0) (ty := .int) (C := RM) (T := TM) (N := 24) hx hb hts iM tyM tyM_ok nmM hown hK hP hD hS 0 rfl rfl 0 (by decide) (hts _ w_340) (fun _ h9 => h9) rfl (by decide +kernel) rfl rfl (Nat.le_of_ble_eq_true rfl) dM_ring_2 (fun H locs hP hD hS => ?_)
  have hP : va_P D vwCl [(md 0, .inr (5, [.int 0, .int (nI N), .ref (md 1), .ref (md 2), .ref (md 3), .ref (md 4), .ref (md 5), .ref (md 6), .ref (md 7), .ref (md 8), .ref (md 9), .ref (md 10), .ref (md 11), .ref (md 12), .ref (md 13), .ref (md 14), .int (nI K), .ref (md 15), .ref (md 16), .ref (md 17), .int ib, .int ch, .int rs, .ref (md 18)])), (md 1, .inl (τ 0, 576, .inl xc)), (md 2, .inl (τ 0, 3, .inl sr)), (md 3, .inl (τ 0, 72, .inl xd)), (md 4, .inl (τ 0, 72, .inl xh)), (md 5, .inl (τ 0, 72, .inl xp)), (md 6, .inl (τ 0, 3, .inl xt)), (md 7, .inl (τ 0, 3, .inl xa)), (md 8, .inl (τ 0, 72, .inl vd)), (md 9, .inl (τ 0, 72, .inl vh)), (md 10, .inl (τ 0, 72, .inl vp)), (md 11, .inl (τ 0, 600, .inl lst)), (md 12, .inl (τ 0, 24, .inl fl)), (md 13, .inl (τ 0, 24, .inl fh)), (md 14, .inl (τ 0, 24, .inl fp)), (md 15, .inl (τ 0, 41, .inl mn)), (md 16, .inl (τ 0, 1230, .inl qp)), (md 17, .inl (τ 0, 1230, .inl qe)), (md 18, .inl (τ 0, 24, .inl rg))] H := hP
  have hD : va_D A [(md 0, .inr (5, [.int 0, .int (nI N), .ref (md 1), .ref (md 2), .ref (md 3), .ref (md 4), .ref (md 5), .ref (md 6), .ref (md 7), .ref (md 8), .ref (md 9), .ref (md 10), .ref (md 11), .ref (md 12), .ref (md 13), .ref (md 14), .int (nI K), .ref (md 15), .ref (md 16), .ref (md 17), .int ib, .int ch, .int rs, .ref (md 18)])), (md 1, .inl (τ 0, 576, .inl xc)), (md 2, .inl (τ 0, 3, .inl sr)), (md 3, .inl (τ 0, 72, .inl xd)), (md 4, .inl (τ 0, 72, .inl xh)), (md 5, .inl (τ 0, 72, .inl xp)), (md 6, .inl (τ 0, 3, .inl xt)), (md 7, .inl (τ 0, 3, .inl xa)), (md 8, .inl (τ 0, 72, .inl vd)), (md 9, .inl (τ 0, 72, .inl vh)), (md 10, .inl (τ 0, 72, .inl vp)), (md 11, .inl (τ 0, 600, .inl lst)), (md 12, .inl (τ 0, 24, .inl fl)), (md 13, .inl (τ 0, 24, .inl fh)), (md 14, .inl (τ 0, 24, .inl fp)), (md 15, .inl (τ 0, 41, .inl mn)), (md 16, .inl (τ 0, 1230, .inl qp)), (md 17, .inl (τ 0, 1230, .inl qe)), (md 18, .inl (τ 0, 24, .inl rg))] := hD
  refine lv_iload_n hx hb dM_ring_5 rfl (lv_at hl 1 rfl) ?_
  refine lv_iconst (v := (-1)) hx hb dM_ring_6 (by decide) ?_
  refine lv_aload_n hx hb dM_ring_7 rfl (lv_at hl 0 rfl) ?_
  refine va_get (D := D) (ci := 5) (v := .int rs) (C := RM) (T := TM) (N := 24) hx hb hts iM hown hK hP 0 rfl rfl 22 (by decide) (hts _ w_362) (fun _ h9 => h9) rfl dM_ring_8 ?_
  refine lv_iconst (v := 1) hx hb dM_ring_11 (by decide) ?_
  refine lv_isub hx hb dM_ring_12 ?_
  refine kc_Si (As := [.int i, .int (-1), .int (rs - 1)]) (rest := []) (wr := [(md 0, .inr (5, [.int 0, .int (nI N), .ref (md 1), .ref (md 2), .ref (md 3), .ref (md 4), .ref (md 5), .ref (md 6), .ref (md 7), .ref (md 8), .ref (md 9), .ref (md 10), .ref (md 11), .ref (md 12), .ref (md 13), .ref (md 14), .int (nI K), .ref (md 15), .ref (md 16), .ref (md 17), .int ib, .int ch, .int rs, .ref (md 18)])), (md 1, .inl (τ 0, 576, .inl xc)), (md 2, .inl (τ 0, 3, .inl sr)), (md 3, .inl (τ 0, 72, .inl xd)), (md 4, .inl (τ 0, 72, .inl xh)), (md 5, .inl (τ 0, 72, .inl xp)), (md 6, .inl (τ 0, 3, .inl xt)), (md 7, .inl (τ 0, 3, .inl xa)), (md 8, .inl (τ 0, 72, .inl vd)), (md 9, .inl (τ 0, 72, .inl vh)), (md 10, .inl (τ 0, 72, .inl vp)), (md 11, .inl (τ 0, 600, .inl lst)), (md 12, .inl (τ 0, 24, .inl fl)), (md 13, .inl (τ 0, 24, .inl fh)), (md 14, .inl (τ 0, 24, .inl fp)), (md 15, .inl (τ 0, 41, .inl mn)), (md 16, .inl (τ 0, 1230, .inl qp)), (md 17, .inl (τ 0, 1230, .inl qe)), (md 18, .inl (τ 0, 24, .inl rg))]) (W1 := [(md 0, .inr (5, [.int 0, .int (nI N), .ref (md 1), .ref (md 2), .ref (md 3), .ref (md 4), .ref (md 5), .ref (md 6), .ref (md 7), .ref (md 8), .ref (md 9), .ref (md 10), .ref (md 11), .ref (md 12), .ref (md 13), .ref (md 14), .int (nI K), .ref (md 15), .ref (md 16), .ref (md 17), .int ib, .int ch, .int rs, .ref (md 18)])), (md 1, .inl (τ 0, 576, .inl xc)), (md 2, .inl (τ 0, 3, .inl sr)), (md 3, .inl (τ 0, 72, .inl xd)), (md 4, .inl (τ 0, 72, .inl xh)), (md 5, .inl (τ 0, 72, .inl xp)), (md 6, .inl (τ 0, 3, .inl xt)), (md 7, .inl (τ 0, 3, .inl xa)), (md 8, .inl (τ 0, 72, .inl vd)), (md 9, .inl (τ 0, 72, .inl vh)), (md 10, .inl (τ 0, 72, .inl vp)), (md 11, .inl (τ 0, 600, .inl lst)), (md 12, .inl (τ 0, 24, .inl fl)), (md 13, .inl (τ 0, 24, .inl fh)), (md 14, .inl (τ 0, 24, .inl fp)), (md 15, .inl (τ 0, 41, .inl mn)), (md 16, .inl (τ 0, 1230, .inl qp)), (md 17, .inl (τ 0, 1230, .inl qe)), (md 18, .inl (τ 0, 24, .inl rg))]) ⟨hx, hb, hml, hown, hts⟩ (cm_in l D τ i (-1) (rs - 1) ) (kcwS hts qM_in w_423 rfl rfl ⟨Nat.le_of_ble_eq_true rfl, Nat.le_of_ble_eq_true rfl⟩) hK hP hD hS hA [] [0, 1, 2, 3, 4, 5, 6, 7, 8, 9, 10, 11, 12, 13, 14, 15, 16, 17, 18] [0, 1, 2, 3, 4, 5, 6, 7, 8, 9, 10, 11, 12, 13, 14, 15, 16, 17, 18] rfl rfl (by decide) (by decide) (by decide) rfl (by decide) hl.1 rfl rfl (Nat.le_of_ble_eq_true rfl) ⟨Nat.zero_le _, Nat.zero_le _⟩ dM_ring_13 (fun H locs hP hD hS => ?_)
  refine lv_if_ne (tgt := 24) hx hb dM_ring_16 (by decide) (fun c_16 => ?_) (fun c_16 => ?_)
  · skip
    have c_16 := kB_1.mp c_16
    refine lv_iload_n hx hb dM_ring_24 rfl (lv_at hl 1 rfl) ?_
    refine lv_if_ge (tgt := 35) hx hb dM_ring_25 (by decide) (fun c_25 => ?_) (fun c_25 => ?_)
    · skip
      obtain ⟨M, hM, hMr⟩ := hR
      obtain ⟨q, hq, rfl⟩ := mNode_n (N := M) hM ⟨Int32.not_lt.mpr c_25, by rw [← hMr]; exact c_16.2⟩
      refine lv_aload_n hx hb dM_ring_35 rfl (lv_at hl 0 rfl) ?_
      refine va_get (D := D) (ci := 5) (v := .ref (md 18)) (C := RM) (T := TM) (N := 24) hx hb hts iM hown hK hP 0 rfl rfl 23 (by decide) (hts _ w_363) (fun _ h9 => h9) rfl dM_ring_36 ?_
      refine lv_iload_n hx hb dM_ring_39 rfl (lv_at hl 1 rfl) ?_
      refine ka_iald (k := q) hx hb hK hP 18 0 rfl rfl (by omega) (by omega) rfl dM_ring_40 ?_
      exact k_iret hx hb hr hlocks hK hS (by unfold gRing; dsimp only; rw [kIf_t c_16, nI_clamp (n := q) (by omega)]; exact (kIf_f (nI_pos (by omega))).symm) hP hD dM_ring_41
    · skip
      refine lv_aload_n hx hb dM_ring_28 rfl (lv_at hl 0 rfl) ?_
      refine va_get (D := D) (ci := 5) (v := .int rs) (C := RM) (T := TM) (N := 24) hx hb hts iM hown hK hP 0 rfl rfl 22 (by decide) (hts _ w_362) (fun _ h9 => h9) rfl dM_ring_29 ?_
      refine lv_goto (tgt := 41) hx hb dM_ring_32 (by decide) ?_
      exact k_iret hx hb hr hlocks hK hS (by unfold gRing; dsimp only; rw [kIf_t c_16]; exact (kIf_t (Int32.not_le.mp c_25)).symm) hP hD dM_ring_41
  · skip
    have c_16 := kB_0.mp c_16
    refine lv_ldc (v := (-2000000)) hx hb hown (hts _ w_426) dM_ring_19 ?_
    refine lv_goto (tgt := 41) hx hb dM_ring_21 (by decide) ?_
    exact k_iret hx hb hr hlocks hK hS (by unfold gRing; dsimp only; exact (kIf_f c_16).symm) hP hD dM_ring_41
set_option maxHeartbeats 4000000 in
set_option maxRecDepth 100000 in
theorem lm_arcs {p : Program} {l : Launch} {e : Env} {s : State} {m : MethodId} {args : Array Value} {below : List Frame} {meth : Method} {c : Code} {Q : State → Prop} {D : va_G} {τ : Nat → ClassId} {A : Nat → Prop} (hx : p.tables.exec = Jvm.exec) (hb : c.code = cM_count1) (hml : c.maxLocals = 4) (hown : s.vm.findClass RM = some m.cls) (hts : ∀ w ∈ kTbl, w.before args s = true) (hK : va_K D vwCl (kTys τ) s) (hA : ∀ q : Nat, s.heap.size ≤ q → A q) (md : Nat → Nat) (N : Nat) (K : Nat) (ib : Int32) (ch : Int32) (rs : Int32) (xc : Nat → Int32) (sr : Nat → Int32) (xd : Nat → Int32) (xh : Nat → Int32) (xp : Nat → Int32) (xt : Nat → Int32) (xa : Nat → Int32) (vd : Nat → Int32) (vh : Nat → Int32) (vp : Nat → Int32) (lst : Nat → Int32) (fl : Nat → Int32) (fh : Nat → Int32) (fp : Nat → Int32) (mn : Nat → Int32) (qp : Nat → Int32) (qe : Nat → Int32) (rg : Nat → Int32) 
    (kx : ∀ (H : Heap) (locs : List Loc) (ls : Array Slot), va_P D vwCl [(md 0, .inr (5, [.int 0, .int (nI N), .ref (md 1), .ref (md 2), .ref (md 3), .ref (md 4), .ref (md 5), .ref (md 6), .ref (md 7), .ref (md 8), .ref (md 9), .ref (md 10), .ref (md 11), .ref (md 12), .ref (md 13), .ref (md 14), .int (nI K), .ref (md 15), .ref (md 16), .ref (md 17), .int ib, .int ch, .int rs, .ref (md 18)])), (md 1, .inl (τ 0, 576, .inl xc)), (md 2, .inl (τ 0, 3, .inl sr)), (md 3, .inl (τ 0, 72, .inl xd)), (md 4, .inl (τ 0, 72, .inl xh)), (md 5, .inl (τ 0, 72, .inl xp)), (md 6, .inl (τ 0, 3, .inl xt)), (md 7, .inl (τ 0, 3, .inl xa)), (md 8, .inl (τ 0, 72, .inl vd)), (md 9, .inl (τ 0, 72, .inl vh)), (md 10, .inl (τ 0, 72, .inl vp)), (md 11, .inl (τ 0, 600, .inl lst)), (md 12, .inl (τ 0, 24, .inl fl)), (md 13, .inl (τ 0, 24, .inl fh)), (md 14, .inl (τ 0, 24, .inl fp)), (md 15, .inl (τ 0, 41, .inl mn)), (md 16, .inl (τ 0, 1230, .inl qp)), (md 17, .inl (τ 0, 1230, .inl qe)), (md 18, .inl (τ 0, 24, .inl rg))] H → va_D A [(md 0, .inr (5, [.int 0, .int (nI N), .ref (md 1), .ref (md 2), .ref (md 3), .ref (md 4), .ref (md 5), .ref (md 6), .ref (md 7), .ref (md 8), .ref (md 9), .ref (md 10), .ref (md 11), .ref (md 12), .ref (md 13), .ref (md 14), .int (nI K), .ref (md 15), .ref (md 16), .ref (md 17), .int ib, .int ch, .int rs, .ref (md 18)])), (md 1, .inl (τ 0, 576, .inl xc)), (md 2, .inl (τ 0, 3, .inl sr)), (md 3, .inl (τ 0, 72, .inl xd)), (md 4, .inl (τ 0, 72, .inl xh)), (md 5, .inl (τ 0, 72, .inl xp)), (md 6, .inl (τ 0, 3, .inl xt)), (md 7, .inl (τ 0, 3, .inl xa)), (md 8, .inl (τ 0, 72, .inl vd)), (md 9, .inl (τ 0, 72, .inl vh)), (md 10, .inl (τ 0, 72, .inl vp)), (md 11, .inl (τ 0, 600, .inl lst)), (md 12, .inl (τ 0, 24, .inl fl)), (md 13, .inl (τ 0, 24, .inl fh)), (md 14, .inl (τ 0, 24, .inl fp)), (md 15, .inl (τ 0, 41, .inl mn)), (md 16, .inl (τ 0, 1230, .inl qp)), (md 17, .inl (τ 0, 1230, .inl qe)), (md 18, .inl (τ 0, 24, .inl rg))] → va_S A s.heap H locs → lv_has ls 4 [(2, .int (kItr (mArcs xc) 576 (0)))] → W p l e (headSpec (kWs yM_count1 cM_count1 4 (some .int)) { frames := 0, cells := 0, slots := 0, locals := 0 }).room s m args below meth c H locs 0 0 Q (F0 m 87 ls [])) :
    ∀ (n k : Nat), k + n = 576 → ∀ (H : Heap) (locs : List Loc) (ls : Array Slot), va_P D vwCl [(md 0, .inr (5, [.int 0, .int (nI N), .ref (md 1), .ref (md 2), .ref (md 3), .ref (md 4), .ref (md 5), .ref (md 6), .ref (md 7), .ref (md 8), .ref (md 9), .ref (md 10), .ref (md 11), .ref (md 12), .ref (md 13), .ref (md 14), .int (nI K), .ref (md 15), .ref (md 16), .ref (md 17), .int ib, .int ch, .int rs, .ref (md 18)])), (md 1, .inl (τ 0, 576, .inl xc)), (md 2, .inl (τ 0, 3, .inl sr)), (md 3, .inl (τ 0, 72, .inl xd)), (md 4, .inl (τ 0, 72, .inl xh)), (md 5, .inl (τ 0, 72, .inl xp)), (md 6, .inl (τ 0, 3, .inl xt)), (md 7, .inl (τ 0, 3, .inl xa)), (md 8, .inl (τ 0, 72, .inl vd)), (md 9, .inl (τ 0, 72, .inl vh)), (md 10, .inl (τ 0, 72, .inl vp)), (md 11, .inl (τ 0, 600, .inl lst)), (md 12, .inl (τ 0, 24, .inl fl)), (md 13, .inl (τ 0, 24, .inl fh)), (md 14, .inl (τ 0, 24, .inl fp)), (md 15, .inl (τ 0, 41, .inl mn)), (md 16, .inl (τ 0, 1230, .inl qp)), (md 17, .inl (τ 0, 1230, .inl qe)), (md 18, .inl (τ 0, 24, .inl rg))] H → va_D A [(md 0, .inr (5, [.int 0, .int (nI N), .ref (md 1), .ref (md 2), .ref (md 3), .ref (md 4), .ref (md 5), .ref (md 6), .ref (md 7), .ref (md 8), .ref (md 9), .ref (md 10), .ref (md 11), .ref (md 12), .ref (md 13), .ref (md 14), .int (nI K), .ref (md 15), .ref (md 16), .ref (md 17), .int ib, .int ch, .int rs, .ref (md 18)])), (md 1, .inl (τ 0, 576, .inl xc)), (md 2, .inl (τ 0, 3, .inl sr)), (md 3, .inl (τ 0, 72, .inl xd)), (md 4, .inl (τ 0, 72, .inl xh)), (md 5, .inl (τ 0, 72, .inl xp)), (md 6, .inl (τ 0, 3, .inl xt)), (md 7, .inl (τ 0, 3, .inl xa)), (md 8, .inl (τ 0, 72, .inl vd)), (md 9, .inl (τ 0, 72, .inl vh)), (md 10, .inl (τ 0, 72, .inl vp)), (md 11, .inl (τ 0, 600, .inl lst)), (md 12, .inl (τ 0, 24, .inl fl)), (md 13, .inl (τ 0, 24, .inl fh)), (md 14, .inl (τ 0, 24, .inl fp)), (md 15, .inl (τ 0, 41, .inl mn)), (md 16, .inl (τ 0, 1230, .inl qp)), (md 17, .inl (τ 0, 1230, .inl qe)), (md 18, .inl (τ 0, 24, .inl rg))] → va_S A s.heap H locs → lv_has ls 4 [(0, .ref (md 0)), (2, .int (kItr (mArcs xc) k (0))), (3, .int (nI k))] → W p l e (headSpec (kWs yM_count1 cM_count1 4 (some .int)) { frames := 0, cells := 0, slots := 0, locals := 0 }).room s m args below meth c H locs 0 0 Q (F0 m 55 ls []) := by
  intro n
  induction n with
  | zero =>
    intro k hk H locs ls hP hD hS hl
    have hkN : 576 = k := by omega
    subst hkN
    revert hP hD hl
    generalize hst : (kItr (mArcs xc) 576 (0)) = nn
    intro hP hD hl
    have hP : va_P D vwCl [(md 0, .inr (5, [.int 0, .int (nI N), .ref (md 1), .ref (md 2), .ref (md 3), .ref (md 4), .ref (md 5), .ref (md 6), .ref (md 7), .ref (md 8), .ref (md 9), .ref (md 10), .ref (md 11), .ref (md 12), .ref (md 13), .ref (md 14), .int (nI K), .ref (md 15), .ref (md 16), .ref (md 17), .int ib, .int ch, .int rs, .ref (md 18)])), (md 1, .inl (τ 0, 576, .inl xc)), (md 2, .inl (τ 0, 3, .inl sr)), (md 3, .inl (τ 0, 72, .inl xd)), (md 4, .inl (τ 0, 72, .inl xh)), (md 5, .inl (τ 0, 72, .inl xp)), (md 6, .inl (τ 0, 3, .inl xt)), (md 7, .inl (τ 0, 3, .inl xa)), (md 8, .inl (τ 0, 72, .inl vd)), (md 9, .inl (τ 0, 72, .inl vh)), (md 10, .inl (τ 0, 72, .inl vp)), (md 11, .inl (τ 0, 600, .inl lst)), (md 12, .inl (τ 0, 24, .inl fl)), (md 13, .inl (τ 0, 24, .inl fh)), (md 14, .inl (τ 0, 24, .inl fp)), (md 15, .inl (τ 0, 41, .inl mn)), (md 16, .inl (τ 0, 1230, .inl qp)), (md 17, .inl (τ 0, 1230, .inl qe)), (md 18, .inl (τ 0, 24, .inl rg))] H := hP
    have hD : va_D A [(md 0, .inr (5, [.int 0, .int (nI N), .ref (md 1), .ref (md 2), .ref (md 3), .ref (md 4), .ref (md 5), .ref (md 6), .ref (md 7), .ref (md 8), .ref (md 9), .ref (md 10), .ref (md 11), .ref (md 12), .ref (md 13), .ref (md 14), .int (nI K), .ref (md 15), .ref (md 16), .ref (md 17), .int ib, .int ch, .int rs, .ref (md 18)])), (md 1, .inl (τ 0, 576, .inl xc)), (md 2, .inl (τ 0, 3, .inl sr)), (md 3, .inl (τ 0, 72, .inl xd)), (md 4, .inl (τ 0, 72, .inl xh)), (md 5, .inl (τ 0, 72, .inl xp)), (md 6, .inl (τ 0, 3, .inl xt)), (md 7, .inl (τ 0, 3, .inl xa)), (md 8, .inl (τ 0, 72, .inl vd)), (md 9, .inl (τ 0, 72, .inl vh)), (md 10, .inl (τ 0, 72, .inl vp)), (md 11, .inl (τ 0, 600, .inl lst)), (md 12, .inl (τ 0, 24, .inl fl)), (md 13, .inl (τ 0, 24, .inl fh)), (md 14, .inl (τ 0, 24, .inl fp)), (md 15, .inl (τ 0, 41, .inl mn)), (md 16, .inl (τ 0, 1230, .inl qp)), (md 17, .inl (τ 0, 1230, .inl qe)), (md 18, .inl (τ 0, 24, .inl rg))] := hD
    have hl : lv_has ls 4 [(0, .ref (md 0)), (2, .int nn), (3, .int (nI 576))] := hl
    refine lv_iload_n hx hb dM_count1_55 rfl (lv_at hl 2 rfl) ?_
    refine lv_sipush (v := 576) hx hb dM_count1_56 (by decide) ?_
    refine lv_icmp_ge (tgt := 87) hx hb dM_count1_59 (by decide) (fun c_59 => ?_) (fun c_59 => absurd (by decide) c_59)
    exact kx H locs ls (by (try rw [hst]); exact hP) (by (try rw [hst]); exact hD) hS (by (try rw [hst]); exact lv_sub hl [1] rfl)
  | succ n ih =>
    intro k hk H locs ls hP hD hS hl
    have hkN : k < 576 := by omega
    have ih := ih (k + 1) (by omega)
    rw [kItr_s] at ih
    revert hP hD hl ih
    generalize hst : (kItr (mArcs xc) k (0)) = nn
    intro hP hD hl ih
    have hP : va_P D vwCl [(md 0, .inr (5, [.int 0, .int (nI N), .ref (md 1), .ref (md 2), .ref (md 3), .ref (md 4), .ref (md 5), .ref (md 6), .ref (md 7), .ref (md 8), .ref (md 9), .ref (md 10), .ref (md 11), .ref (md 12), .ref (md 13), .ref (md 14), .int (nI K), .ref (md 15), .ref (md 16), .ref (md 17), .int ib, .int ch, .int rs, .ref (md 18)])), (md 1, .inl (τ 0, 576, .inl xc)), (md 2, .inl (τ 0, 3, .inl sr)), (md 3, .inl (τ 0, 72, .inl xd)), (md 4, .inl (τ 0, 72, .inl xh)), (md 5, .inl (τ 0, 72, .inl xp)), (md 6, .inl (τ 0, 3, .inl xt)), (md 7, .inl (τ 0, 3, .inl xa)), (md 8, .inl (τ 0, 72, .inl vd)), (md 9, .inl (τ 0, 72, .inl vh)), (md 10, .inl (τ 0, 72, .inl vp)), (md 11, .inl (τ 0, 600, .inl lst)), (md 12, .inl (τ 0, 24, .inl fl)), (md 13, .inl (τ 0, 24, .inl fh)), (md 14, .inl (τ 0, 24, .inl fp)), (md 15, .inl (τ 0, 41, .inl mn)), (md 16, .inl (τ 0, 1230, .inl qp)), (md 17, .inl (τ 0, 1230, .inl qe)), (md 18, .inl (τ 0, 24, .inl rg))] H := hP
    have hD : va_D A [(md 0, .inr (5, [.int 0, .int (nI N), .ref (md 1), .ref (md 2), .ref (md 3), .ref (md 4), .ref (md 5), .ref (md 6), .ref (md 7), .ref (md 8), .ref (md 9), .ref (md 10), .ref (md 11), .ref (md 12), .ref (md 13), .ref (md 14), .int (nI K), .ref (md 15), .ref (md 16), .ref (md 17), .int ib, .int ch, .int rs, .ref (md 18)])), (md 1, .inl (τ 0, 576, .inl xc)), (md 2, .inl (τ 0, 3, .inl sr)), (md 3, .inl (τ 0, 72, .inl xd)), (md 4, .inl (τ 0, 72, .inl xh)), (md 5, .inl (τ 0, 72, .inl xp)), (md 6, .inl (τ 0, 3, .inl xt)), (md 7, .inl (τ 0, 3, .inl xa)), (md 8, .inl (τ 0, 72, .inl vd)), (md 9, .inl (τ 0, 72, .inl vh)), (md 10, .inl (τ 0, 72, .inl vp)), (md 11, .inl (τ 0, 600, .inl lst)), (md 12, .inl (τ 0, 24, .inl fl)), (md 13, .inl (τ 0, 24, .inl fh)), (md 14, .inl (τ 0, 24, .inl fp)), (md 15, .inl (τ 0, 41, .inl mn)), (md 16, .inl (τ 0, 1230, .inl qp)), (md 17, .inl (τ 0, 1230, .inl qe)), (md 18, .inl (τ 0, 24, .inl rg))] := hD
    have hl : lv_has ls 4 [(0, .ref (md 0)), (2, .int nn), (3, .int (nI k))] := hl
    refine lv_iload_n hx hb dM_count1_55 rfl (lv_at hl 2 rfl) ?_
    refine lv_sipush (v := 576) hx hb dM_count1_56 (by decide) ?_
    refine lv_icmp_ge (tgt := 87) hx hb dM_count1_59 (by decide) (fun c_59 => absurd c_59 (nI_ge (b := 576) hkN (by decide))) (fun c_59 => ?_)
    refine lv_aload_n hx hb dM_count1_62 rfl (lv_at hl 0 rfl) ?_
    refine va_get (D := D) (ci := 5) (v := .ref (md 1)) (C := RM) (T := TM) (N := 24) hx hb hts iM hown hK hP 0 rfl rfl 2 (by decide) (hts _ w_342) (fun _ h9 => h9) rfl dM_count1_63 ?_
    refine lv_iload_n hx hb dM_count1_66 rfl (lv_at hl 2 rfl) ?_
    refine ka_iald (k := k) hx hb hK hP 1 0 rfl rfl (by omega) (by omega) rfl dM_count1_67 ?_
    refine lv_ldc (v := 1000000) hx hb hown (hts _ w_330) dM_count1_68 ?_
    refine lv_icmp_eq (tgt := 79) hx hb dM_count1_70 (by decide) (fun c_70 => ?_) (fun c_70 => ?_)
    · skip
      refine lv_iload_n hx hb dM_count1_79 rfl (lv_at hl 1 rfl) ?_
      refine lv_istore_n (lv' := [(2, .int nn), (0, .ref (md 0)), (3, .int (nI k))]) hx hb dM_count1_80 rfl hl (by decide) rfl (fun ls hl => ?_)
      refine lv_iinc (v := nI (k + 1)) (lv' := [(3, .int (nI (k + 1))), (2, .int nn), (0, .ref (md 0))]) hx hb dM_count1_81 hl (k := 2) rfl (nI_1 _) (by decide) rfl (fun ls hl => ?_)
      refine lv_goto (tgt := 55) hx hb dM_count1_84 (by decide) ?_
      have e_ : (mArcs xc) k (nn) = (nn) := by unfold mArcs; exact kIf_t c_70
      (try rw [e_] at ih)
      exact ih H locs ls hP hD hS (lv_sub hl [2, 1, 0] rfl)
    · skip
      refine lv_iload_n hx hb dM_count1_73 rfl (lv_at hl 1 rfl) ?_
      refine lv_iconst (v := 1) hx hb dM_count1_74 (by decide) ?_
      refine lv_iadd hx hb dM_count1_75 ?_
      refine lv_goto (tgt := 80) hx hb dM_count1_76 (by decide) ?_
      refine lv_istore_n (lv' := [(2, .int (nn + 1)), (0, .ref (md 0)), (3, .int (nI k))]) hx hb dM_count1_80 rfl hl (by decide) rfl (fun ls hl => ?_)
      refine lv_iinc (v := nI (k + 1)) (lv' := [(3, .int (nI (k + 1))), (2, .int (nn + 1)), (0, .ref (md 0))]) hx hb dM_count1_81 hl (k := 2) rfl (nI_1 _) (by decide) rfl (fun ls hl => ?_)
      refine lv_goto (tgt := 55) hx hb dM_count1_84 (by decide) ?_
      have e_ : (mArcs xc) k (nn) = (nn + 1) := by unfold mArcs; exact kIf_f c_70
      (try rw [e_] at ih)
      exact ih H locs ls hP hD hS (lv_sub hl [2, 1, 0] rfl)
set_option maxHeartbeats 20000000 in
set_option maxRecDepth 100000 in
theorem cm_countq (l : Launch) (D : va_G) (τ : Nat → ClassId) (md : Nat → Nat) (th : Int32) (N : Nat) (K : Nat) (ib : Int32) (ch : Int32) (rs : Int32) (xc : Nat → Int32) (sr : Nat → Int32) (xd : Nat → Int32) (xh : Nat → Int32) (xp : Nat → Int32) (xt : Nat → Int32) (xa : Nat → Int32) (vd : Nat → Int32) (vh : Nat → Int32) (vp : Nat → Int32) (lst : Nat → Int32) (fl : Nat → Int32) (fh : Nat → Int32) (fp : Nat → Int32) (mn : Nat → Int32) (qp : Nat → Int32) (qe : Nat → Int32) (rg : Nat → Int32) (w : Int32) (hN : N ≤ 24) (hsr : ∀ q, q < 3 → sr q < 0 ∨ ∃ j, j < N ∧ sr q = nI j) (hKk : K ≤ 40) : kMi l D τ yM_count1 (kWs yM_count1 cM_count1 4 (some .int)) { frames := 0, cells := 0, slots := 0, locals := 0 } [.ref (md 0), .int w] [(md 0, .inr (5, [.int th, .int (nI N), .ref (md 1), .ref (md 2), .ref (md 3), .ref (md 4), .ref (md 5), .ref (md 6), .ref (md 7), .ref (md 8), .ref (md 9), .ref (md 10), .ref (md 11), .ref (md 12), .ref (md 13), .ref (md 14), .int (nI K), .ref (md 15), .ref (md 16), .ref (md 17), .int ib, .int ch, .int rs, .ref (md 18)])), (md 1, .inl (τ 0, 576, .inl xc)), (md 2, .inl (τ 0, 3, .inl sr)), (md 3, .inl (τ 0, 72, .inl xd)), (md 4, .inl (τ 0, 72, .inl xh)), (md 5, .inl (τ 0, 72, .inl xp)), (md 6, .inl (τ 0, 3, .inl xt)), (md 7, .inl (τ 0, 3, .inl xa)), (md 8, .inl (τ 0, 72, .inl vd)), (md 9, .inl (τ 0, 72, .inl vh)), (md 10, .inl (τ 0, 72, .inl vp)), (md 11, .inl (τ 0, 600, .inl lst)), (md 12, .inl (τ 0, 24, .inl fl)), (md 13, .inl (τ 0, 24, .inl fh)), (md 14, .inl (τ 0, 24, .inl fp)), (md 15, .inl (τ 0, 41, .inl mn)), (md 16, .inl (τ 0, 1230, .inl qp)), (md 17, .inl (τ 0, 1230, .inl qe)), (md 18, .inl (τ 0, 24, .inl rg))] (gCount ((N, xc, sr), (xd, xh, xp, xt, xa), (vd, vh, vp, lst, fl, fh, fp), (K, mn, qp, qe), (th, ib, ch, rs, rg)) w) [(md 0, .inr (5, [.int 0, .int (nI N), .ref (md 1), .ref (md 2), .ref (md 3), .ref (md 4), .ref (md 5), .ref (md 6), .ref (md 7), .ref (md 8), .ref (md 9), .ref (md 10), .ref (md 11), .ref (md 12), .ref (md 13), .ref (md 14), .int (nI K), .ref (md 15), .ref (md 16), .ref (md 17), .int ib, .int ch, .int rs, .ref (md 18)])), (md 1, .inl (τ 0, 576, .inl xc)), (md 2, .inl (τ 0, 3, .inl sr)), (md 3, .inl (τ 0, 72, .inl xd)), (md 4, .inl (τ 0, 72, .inl xh)), (md 5, .inl (τ 0, 72, .inl xp)), (md 6, .inl (τ 0, 3, .inl xt)), (md 7, .inl (τ 0, 3, .inl xa)), (md 8, .inl (τ 0, 72, .inl vd)), (md 9, .inl (τ 0, 72, .inl vh)), (md 10, .inl (τ 0, 72, .inl vp)), (md 11, .inl (τ 0, 600, .inl lst)), (md 12, .inl (τ 0, 24, .inl fl)), (md 13, .inl (τ 0, 24, .inl fh)), (md 14, .inl (τ 0, 24, .inl fp)), (md 15, .inl (τ 0, 41, .inl mn)), (md 16, .inl (τ 0, 1230, .inl qp)), (md 17, .inl (τ 0, 1230, .inl qe)), (md 18, .inl (τ 0, 24, .inl rg))] := by
  intro sz
  refine Met.ofW (cc := cM_count1) (maxL := 4) (ret := (some .int)) (by decide) rfl ?_
  intro p e s m args below meth c s₁ B hml hv
  obtain ⟨rfl, hsz, hP, hK, hD0⟩ := hv
  have hx := B.exec
  have hb := B.bytes
  have hr := B.returns
  have hts := fun w (hw : w ∈ kTbl) => atoms_spec (ws := (kWs yM_count1 cM_count1 4 (some .int))) B.pre w (List.mem_cons_of_mem _ hw)
  have hown : s.vm.findClass RM = some m.cls := findClass_of_methodNamed B.named
  have hlocks := B.notSynchronized
  subst hsz
  have hD := hD0.self (sz := s.heap.size)
  generalize hAe : va_A [(md 0, .inr (5, [.int th, .int (nI N), .ref (md 1), .ref (md 2), .ref (md 3), .ref (md 4), .ref (md 5), .ref (md 6), .ref (md 7), .ref (md 8), .ref (md 9), .ref (md 10), .ref (md 11), .ref (md 12), .ref (md 13), .ref (md 14), .int (nI K), .ref (md 15), .ref (md 16), .ref (md 17), .int ib, .int ch, .int rs, .ref (md 18)])), (md 1, .inl (τ 0, 576, .inl xc)), (md 2, .inl (τ 0, 3, .inl sr)), (md 3, .inl (τ 0, 72, .inl xd)), (md 4, .inl (τ 0, 72, .inl xh)), (md 5, .inl (τ 0, 72, .inl xp)), (md 6, .inl (τ 0, 3, .inl xt)), (md 7, .inl (τ 0, 3, .inl xa)), (md 8, .inl (τ 0, 72, .inl vd)), (md 9, .inl (τ 0, 72, .inl vh)), (md 10, .inl (τ 0, 72, .inl vp)), (md 11, .inl (τ 0, 600, .inl lst)), (md 12, .inl (τ 0, 24, .inl fl)), (md 13, .inl (τ 0, 24, .inl fh)), (md 14, .inl (τ 0, 24, .inl fp)), (md 15, .inl (τ 0, 41, .inl mn)), (md 16, .inl (τ 0, 1230, .inl qp)), (md 17, .inl (τ 0, 1230, .inl qe)), (md 18, .inl (τ 0, 24, .inl rg))] s.heap.size = A at hD ⊢
  have hA : ∀ q : Nat, s.heap.size ≤ q → A q := fun q h => by rw [← hAe]; exact Or.inr h
  have hS : va_S A s.heap s.heap [] := va_S.rf
  have hP : va_P D vwCl [(md 0, .inr (5, [.int th, .int (nI N), .ref (md 1), .ref (md 2), .ref (md 3), .ref (md 4), .ref (md 5), .ref (md 6), .ref (md 7), .ref (md 8), .ref (md 9), .ref (md 10), .ref (md 11), .ref (md 12), .ref (md 13), .ref (md 14), .int (nI K), .ref (md 15), .ref (md 16), .ref (md 17), .int ib, .int ch, .int rs, .ref (md 18)])), (md 1, .inl (τ 0, 576, .inl xc)), (md 2, .inl (τ 0, 3, .inl sr)), (md 3, .inl (τ 0, 72, .inl xd)), (md 4, .inl (τ 0, 72, .inl xh)), (md 5, .inl (τ 0, 72, .inl xp)), (md 6, .inl (τ 0, 3, .inl xt)), (md 7, .inl (τ 0, 3, .inl xa)), (md 8, .inl (τ 0, 72, .inl vd)), (md 9, .inl (τ 0, 72, .inl vh)), (md 10, .inl (τ 0, 72, .inl vp)), (md 11, .inl (τ 0, 600, .inl lst)), (md 12, .inl (τ 0, 24, .inl fl)), (md 13, .inl (τ 0, 24, .inl fh)), (md 14, .inl (τ 0, 24, .inl fp)), (md 15, .inl (τ 0, 41, .inl mn)), (md 16, .inl (τ 0, 1230, .inl qp)), (md 17, .inl (τ 0, 1230, .inl qe)), (md 18, .inl (τ 0, 24, .inl rg))] s.heap := hP
  have hl := lv_entry ([.ref (md 0), .int w]) (n := 4) (Nat.le_of_ble_eq_true rfl)
  rw [lg_entry_eq]
  generalize (lg_sl ([.ref (md 0), .int w]) ++ List.replicate (4 - (lg_sl ([.ref (md 0), .int w])).length) Slot.unset).toArray = ls at hl ⊢
  have hl : lv_has ls 4 [(0, .ref (md 0)), (1, .int w)] := hl
  skip
  refine lv_aload_n hx hb dM_count1_0 rfl (lv_at hl 0 rfl) ?_
  refine lv_iconst (v := 0) hx hb dM_count1_1 (by decide) ?_
  refine va_put (D := D) (ci := 5) (v := .int 0) (ty := .int) (C := RM) (T := TM) (N := 24) hx hb hts iM tyM tyM_ok nmM hown hK hP hD hS 0 rfl rfl 0 (by decide) (hts _ w_340) (fun _ h9 => h9) rfl (by decide +kernel) rfl rfl (Nat.le_of_ble_eq_true rfl) dM_count1_2 (fun H locs hP hD hS => ?_)
  have hP : va_P D vwCl [(md 0, .inr (5, [.int 0, .int (nI N), .ref (md 1), .ref (md 2), .ref (md 3), .ref (md 4), .ref (md 5), .ref (md 6), .ref (md 7), .ref (md 8), .ref (md 9), .ref (md 10), .ref (md 11), .ref (md 12), .ref (md 13), .ref (md 14), .int (nI K), .ref (md 15), .ref (md 16), .ref (md 17), .int ib, .int ch, .int rs, .ref (md 18)])), (md 1, .inl (τ 0, 576, .inl xc)), (md 2, .inl (τ 0, 3, .inl sr)), (md 3, .inl (τ 0, 72, .inl xd)), (md 4, .inl (τ 0, 72, .inl xh)), (md 5, .inl (τ 0, 72, .inl xp)), (md 6, .inl (τ 0, 3, .inl xt)), (md 7, .inl (τ 0, 3, .inl xa)), (md 8, .inl (τ 0, 72, .inl vd)), (md 9, .inl (τ 0, 72, .inl vh)), (md 10, .inl (τ 0, 72, .inl vp)), (md 11, .inl (τ 0, 600, .inl lst)), (md 12, .inl (τ 0, 24, .inl fl)), (md 13, .inl (τ 0, 24, .inl fh)), (md 14, .inl (τ 0, 24, .inl fp)), (md 15, .inl (τ 0, 41, .inl mn)), (md 16, .inl (τ 0, 1230, .inl qp)), (md 17, .inl (τ 0, 1230, .inl qe)), (md 18, .inl (τ 0, 24, .inl rg))] H := hP
  have hD : va_D A [(md 0, .inr (5, [.int 0, .int (nI N), .ref (md 1), .ref (md 2), .ref (md 3), .ref (md 4), .ref (md 5), .ref (md 6), .ref (md 7), .ref (md 8), .ref (md 9), .ref (md 10), .ref (md 11), .ref (md 12), .ref (md 13), .ref (md 14), .int (nI K), .ref (md 15), .ref (md 16), .ref (md 17), .int ib, .int ch, .int rs, .ref (md 18)])), (md 1, .inl (τ 0, 576, .inl xc)), (md 2, .inl (τ 0, 3, .inl sr)), (md 3, .inl (τ 0, 72, .inl xd)), (md 4, .inl (τ 0, 72, .inl xh)), (md 5, .inl (τ 0, 72, .inl xp)), (md 6, .inl (τ 0, 3, .inl xt)), (md 7, .inl (τ 0, 3, .inl xa)), (md 8, .inl (τ 0, 72, .inl vd)), (md 9, .inl (τ 0, 72, .inl vh)), (md 10, .inl (τ 0, 72, .inl vp)), (md 11, .inl (τ 0, 600, .inl lst)), (md 12, .inl (τ 0, 24, .inl fl)), (md 13, .inl (τ 0, 24, .inl fh)), (md 14, .inl (τ 0, 24, .inl fp)), (md 15, .inl (τ 0, 41, .inl mn)), (md 16, .inl (τ 0, 1230, .inl qp)), (md 17, .inl (τ 0, 1230, .inl qe)), (md 18, .inl (τ 0, 24, .inl rg))] := hD
  refine lv_iconst (v := 0) hx hb dM_count1_5 (by decide) ?_
  refine lv_istore_n (lv' := [(2, .int 0), (0, .ref (md 0)), (1, .int w)]) hx hb dM_count1_6 rfl hl (by decide) rfl (fun ls hl => ?_)
  refine lv_iload_n hx hb dM_count1_7 rfl (lv_at hl 2 rfl) ?_
  by_cases hw0 : w = 0
  · subst hw0
    refine lv_tableIn (off := 40) (tgt := 48) hx hb dM_count1_8 (by decide) (by decide) rfl (by decide) ?_
    refine lv_aload_n hx hb dM_count1_48 rfl (lv_at hl 1 rfl) ?_
    refine va_get (D := D) (ci := 5) (v := .int (nI N)) (C := RM) (T := TM) (N := 24) hx hb hts iM hown hK hP 0 rfl rfl 1 (by decide) (hts _ w_341) (fun _ h9 => h9) rfl dM_count1_49 ?_
    exact k_iret hx hb hr hlocks hK hS (by unfold gCount; rw [kIf_t rfl]) hP hD dM_count1_52
  by_cases hw1 : w = 1
  · subst hw1
    refine lv_tableIn (off := 45) (tgt := 53) hx hb dM_count1_8 (by decide) (by decide) rfl (by decide) ?_
    refine lv_iconst (v := 0) hx hb dM_count1_53 (by decide) ?_
    refine lv_istore_n (lv' := [(3, .int 0), (2, .int 0), (0, .ref (md 0)), (1, .int 1)]) hx hb dM_count1_54 rfl hl (by decide) rfl (fun ls hl => ?_)
    refine lm_arcs hx hb hml hown hts hK hA md N K ib ch rs xc sr xd xh xp xt xa vd vh vp lst fl fh fp mn qp qe rg  (fun H locs ls hP hD hS hl => ?_) 576 0 (by omega) _ _ ls hP hD hS (lv_sub hl [2, 1, 0] rfl)
    refine lv_iload_n hx hb dM_count1_87 rfl (lv_at hl 0 rfl) ?_
    exact k_iret hx hb hr hlocks hK hS (by unfold gCount; rw [kIf_f hw0, kIf_t rfl]) hP hD dM_count1_88
  by_cases hw2 : w = 2
  · subst hw2
    refine lv_tableIn (off := 81) (tgt := 89) hx hb dM_count1_8 (by decide) (by decide) rfl (by decide) ?_
    refine lv_aload_n hx hb dM_count1_89 rfl (lv_at hl 1 rfl) ?_
    refine va_get (D := D) (ci := 5) (v := .int (nI K)) (C := RM) (T := TM) (N := 24) hx hb hts iM hown hK hP 0 rfl rfl 16 (by decide) (hts _ w_356) (fun _ h9 => h9) rfl dM_count1_90 ?_
    exact k_iret hx hb hr hlocks hK hS (by unfold gCount; rw [kIf_f hw0, kIf_f hw1, kIf_t rfl]) hP hD dM_count1_93
  by_cases hw3 : w = 3
  · subst hw3
    refine lv_tableIn (off := 86) (tgt := 94) hx hb dM_count1_8 (by decide) (by decide) rfl (by decide) ?_
    refine lv_aload_n hx hb dM_count1_94 rfl (lv_at hl 1 rfl) ?_
    refine va_get (D := D) (ci := 5) (v := .int ib) (C := RM) (T := TM) (N := 24) hx hb hts iM hown hK hP 0 rfl rfl 20 (by decide) (hts _ w_360) (fun _ h9 => h9) rfl dM_count1_95 ?_
    refine lv_if_eq (tgt := 113) hx hb dM_count1_98 (by decide) (fun c_98 => ?_) (fun c_98 => ?_)
    · skip
      refine lv_iconst (v := 0) hx hb dM_count1_113 (by decide) ?_
      exact k_iret hx hb hr hlocks hK hS (by unfold gCount; rw [kIf_f hw0, kIf_f hw1, kIf_f hw2, kIf_t rfl]; dsimp only; exact (kIf_t c_98).symm) hP hD dM_count1_114
    · skip
      refine lv_aload_n hx hb dM_count1_101 rfl (lv_at hl 1 rfl) ?_
      refine va_get (D := D) (ci := 5) (v := .ref (md 15)) (C := RM) (T := TM) (N := 24) hx hb hts iM hown hK hP 0 rfl rfl 17 (by decide) (hts _ w_357) (fun _ h9 => h9) rfl dM_count1_102 ?_
      refine lv_aload_n hx hb dM_count1_105 rfl (lv_at hl 1 rfl) ?_
      refine va_get (D := D) (ci := 5) (v := .int (nI K)) (C := RM) (T := TM) (N := 24) hx hb hts iM hown hK hP 0 rfl rfl 16 (by decide) (hts _ w_356) (fun _ h9 => h9) rfl dM_count1_106 ?_
      refine ka_iald (k := K) hx hb hK hP 15 0 rfl rfl (by omega) (by omega) rfl dM_count1_109 ?_
      refine lv_goto (tgt := 114) hx hb dM_count1_110 (by decide) ?_
      exact k_iret hx hb hr hlocks hK hS (by unfold gCount; rw [kIf_f hw0, kIf_f hw1, kIf_f hw2, kIf_t rfl]; dsimp only; exact (kIf_f c_98).symm) hP hD dM_count1_114
  by_cases hw4 : w = 4
  · subst hw4
    refine lv_tableIn (off := 107) (tgt := 115) hx hb dM_count1_8 (by decide) (by decide) rfl (by decide) ?_
    refine lv_aload_n hx hb dM_count1_115 rfl (lv_at hl 1 rfl) ?_
    refine va_get (D := D) (ci := 5) (v := .int ib) (C := RM) (T := TM) (N := 24) hx hb hts iM hown hK hP 0 rfl rfl 20 (by decide) (hts _ w_360) (fun _ h9 => h9) rfl dM_count1_116 ?_
    refine lv_if_eq (tgt := 126) hx hb dM_count1_119 (by decide) (fun c_119 => ?_) (fun c_119 => ?_)
    · skip
      refine lv_iconst (v := 0) hx hb dM_count1_126 (by decide) ?_
      exact k_iret hx hb hr hlocks hK hS (by unfold gCount; rw [kIf_f hw0, kIf_f hw1, kIf_f hw2, kIf_f hw3, kIf_t rfl]; dsimp only; exact (kIf_t c_119).symm) hP hD dM_count1_127
    · skip
      refine lv_iconst (v := 1) hx hb dM_count1_122 (by decide) ?_
      refine lv_goto (tgt := 127) hx hb dM_count1_123 (by decide) ?_
      exact k_iret hx hb hr hlocks hK hS (by unfold gCount; rw [kIf_f hw0, kIf_f hw1, kIf_f hw2, kIf_f hw3, kIf_t rfl]; dsimp only; exact (kIf_f c_119).symm) hP hD dM_count1_127
  by_cases hw5 : w = 5
  · subst hw5
    refine lv_tableIn (off := 120) (tgt := 128) hx hb dM_count1_8 (by decide) (by decide) rfl (by decide) ?_
    refine lv_aload_n hx hb dM_count1_128 rfl (lv_at hl 1 rfl) ?_
    refine va_get (D := D) (ci := 5) (v := .int ch) (C := RM) (T := TM) (N := 24) hx hb hts iM hown hK hP 0 rfl rfl 21 (by decide) (hts _ w_361) (fun _ h9 => h9) rfl dM_count1_129 ?_
    exact k_iret hx hb hr hlocks hK hS (by unfold gCount; rw [kIf_f hw0, kIf_f hw1, kIf_f hw2, kIf_f hw3, kIf_f hw4, kIf_t rfl]) hP hD dM_count1_132
  refine lv_tableOut (tgt := 133) hx hb dM_count1_8 (kSw6 hw0 hw1 hw2 hw3 hw4 hw5) (by decide) ?_
  refine lv_ldc (v := (-2000000)) hx hb hown (hts _ w_426) dM_count1_133 ?_
  exact k_iret hx hb hr hlocks hK hS (by unfold gCount; rw [kIf_f hw0, kIf_f hw1, kIf_f hw2, kIf_f hw3, kIf_f hw4, kIf_f hw5]) hP hD dM_count1_135
