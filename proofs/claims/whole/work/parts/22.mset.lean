set_option maxHeartbeats 4000000 in
set_option maxRecDepth 100000 in
theorem lm_s1 {p : Program} {l : Launch} {e : Env} {s : State} {m : MethodId} {args : Array Value} {below : List Frame} {meth : Method} {c : Code} {Q : State → Prop} {D : va_G} {τ : Nat → ClassId} {A : Nat → Prop} (hx : p.tables.exec = Jvm.exec) (hb : c.code = cM_settle) (hml : c.maxLocals = 6) (hown : s.vm.findClass RM = some m.cls) (hts : ∀ w ∈ kTbl, w.before args s = true) (hK : va_K D vwCl (kTys τ) s) (hA : ∀ q : Nat, s.heap.size ≤ q → A q) (md : Nat → Nat) (th : Int32) (N : Nat) (K : Nat) (ib : Int32) (ch : Int32) (rs : Int32) (xc : Nat → Int32) (sr : Nat → Int32) (xt : Nat → Int32) (lst : Nat → Int32) (fl : Nat → Int32) (fh : Nat → Int32) (fp : Nat → Int32) (g1 : Nat → Int32) (g2 : Nat → Int32) (g3 : Nat → Int32) (g4 : Nat → Int32) (g5 : Nat → Int32) (g6 : Nat → Int32) 
    (kx : ∀ (H : Heap) (locs : List Loc) (ls : Array Slot), va_P D vwCl [(md 0, .inr (5, [.int th, .int (nI N), .ref (md 1), .ref (md 2), .ref (md 3), .ref (md 4), .ref (md 5), .ref (md 6), .ref (md 7), .ref (md 8), .ref (md 9), .ref (md 10), .ref (md 11), .ref (md 12), .ref (md 13), .ref (md 14), .int (nI K), .ref (md 15), .ref (md 16), .ref (md 17), .int ib, .int ch, .int rs, .ref (md 18)])), (md 1, .inl (τ 0, 576, .inl xc)), (md 2, .inl (τ 0, 3, .inl sr)), (md 3, .inl (τ 0, 72, .inl ((kItr (mS1) 72 (g1, g2, g3, g4, g5, g6)).2.2.2.1))), (md 4, .inl (τ 0, 72, .inl ((kItr (mS1) 72 (g1, g2, g3, g4, g5, g6)).2.2.2.2.1))), (md 5, .inl (τ 0, 72, .inl ((kItr (mS1) 72 (g1, g2, g3, g4, g5, g6)).2.2.2.2.2))), (md 6, .inl (τ 0, 3, .inl xt)), (md 8, .inl (τ 0, 72, .inl ((kItr (mS1) 72 (g1, g2, g3, g4, g5, g6)).1))), (md 9, .inl (τ 0, 72, .inl ((kItr (mS1) 72 (g1, g2, g3, g4, g5, g6)).2.1))), (md 10, .inl (τ 0, 72, .inl ((kItr (mS1) 72 (g1, g2, g3, g4, g5, g6)).2.2.1))), (md 11, .inl (τ 0, 600, .inl lst)), (md 12, .inl (τ 0, 24, .inl fl)), (md 13, .inl (τ 0, 24, .inl fh)), (md 14, .inl (τ 0, 24, .inl fp))] H → va_D A [(md 0, .inr (5, [.int th, .int (nI N), .ref (md 1), .ref (md 2), .ref (md 3), .ref (md 4), .ref (md 5), .ref (md 6), .ref (md 7), .ref (md 8), .ref (md 9), .ref (md 10), .ref (md 11), .ref (md 12), .ref (md 13), .ref (md 14), .int (nI K), .ref (md 15), .ref (md 16), .ref (md 17), .int ib, .int ch, .int rs, .ref (md 18)])), (md 1, .inl (τ 0, 576, .inl xc)), (md 2, .inl (τ 0, 3, .inl sr)), (md 3, .inl (τ 0, 72, .inl ((kItr (mS1) 72 (g1, g2, g3, g4, g5, g6)).2.2.2.1))), (md 4, .inl (τ 0, 72, .inl ((kItr (mS1) 72 (g1, g2, g3, g4, g5, g6)).2.2.2.2.1))), (md 5, .inl (τ 0, 72, .inl ((kItr (mS1) 72 (g1, g2, g3, g4, g5, g6)).2.2.2.2.2))), (md 6, .inl (τ 0, 3, .inl xt)), (md 8, .inl (τ 0, 72, .inl ((kItr (mS1) 72 (g1, g2, g3, g4, g5, g6)).1))), (md 9, .inl (τ 0, 72, .inl ((kItr (mS1) 72 (g1, g2, g3, g4, g5, g6)).2.1))), (md 10, .inl (τ 0, 72, .inl ((kItr (mS1) 72 (g1, g2, g3, g4, g5, g6)).2.2.1))), (md 11, .inl (τ 0, 600, .inl lst)), (md 12, .inl (τ 0, 24, .inl fl)), (md 13, .inl (τ 0, 24, .inl fh)), (md 14, .inl (τ 0, 24, .inl fp))] → va_S A s.heap H locs → lv_has ls 6 [(0, .ref (md 0))] → W p l e (headSpec (kWs yM_settle cM_settle 6 none) { frames := 1, cells := 0, slots := 0, locals := 29 }).room s m args below meth c H locs 0 0 Q (F0 m 74 ls [])) :
    ∀ (n k : Nat), k + n = 72 → ∀ (H : Heap) (locs : List Loc) (ls : Array Slot), va_P D vwCl [(md 0, .inr (5, [.int th, .int (nI N), .ref (md 1), .ref (md 2), .ref (md 3), .ref (md 4), .ref (md 5), .ref (md 6), .ref (md 7), .ref (md 8), .ref (md 9), .ref (md 10), .ref (md 11), .ref (md 12), .ref (md 13), .ref (md 14), .int (nI K), .ref (md 15), .ref (md 16), .ref (md 17), .int ib, .int ch, .int rs, .ref (md 18)])), (md 1, .inl (τ 0, 576, .inl xc)), (md 2, .inl (τ 0, 3, .inl sr)), (md 3, .inl (τ 0, 72, .inl ((kItr (mS1) k (g1, g2, g3, g4, g5, g6)).2.2.2.1))), (md 4, .inl (τ 0, 72, .inl ((kItr (mS1) k (g1, g2, g3, g4, g5, g6)).2.2.2.2.1))), (md 5, .inl (τ 0, 72, .inl ((kItr (mS1) k (g1, g2, g3, g4, g5, g6)).2.2.2.2.2))), (md 6, .inl (τ 0, 3, .inl xt)), (md 8, .inl (τ 0, 72, .inl ((kItr (mS1) k (g1, g2, g3, g4, g5, g6)).1))), (md 9, .inl (τ 0, 72, .inl ((kItr (mS1) k (g1, g2, g3, g4, g5, g6)).2.1))), (md 10, .inl (τ 0, 72, .inl ((kItr (mS1) k (g1, g2, g3, g4, g5, g6)).2.2.1))), (md 11, .inl (τ 0, 600, .inl lst)), (md 12, .inl (τ 0, 24, .inl fl)), (md 13, .inl (τ 0, 24, .inl fh)), (md 14, .inl (τ 0, 24, .inl fp))] H → va_D A [(md 0, .inr (5, [.int th, .int (nI N), .ref (md 1), .ref (md 2), .ref (md 3), .ref (md 4), .ref (md 5), .ref (md 6), .ref (md 7), .ref (md 8), .ref (md 9), .ref (md 10), .ref (md 11), .ref (md 12), .ref (md 13), .ref (md 14), .int (nI K), .ref (md 15), .ref (md 16), .ref (md 17), .int ib, .int ch, .int rs, .ref (md 18)])), (md 1, .inl (τ 0, 576, .inl xc)), (md 2, .inl (τ 0, 3, .inl sr)), (md 3, .inl (τ 0, 72, .inl ((kItr (mS1) k (g1, g2, g3, g4, g5, g6)).2.2.2.1))), (md 4, .inl (τ 0, 72, .inl ((kItr (mS1) k (g1, g2, g3, g4, g5, g6)).2.2.2.2.1))), (md 5, .inl (τ 0, 72, .inl ((kItr (mS1) k (g1, g2, g3, g4, g5, g6)).2.2.2.2.2))), (md 6, .inl (τ 0, 3, .inl xt)), (md 8, .inl (τ 0, 72, .inl ((kItr (mS1) k (g1, g2, g3, g4, g5, g6)).1))), (md 9, .inl (τ 0, 72, .inl ((kItr (mS1) k (g1, g2, g3, g4, g5, g6)).2.1))), (md 10, .inl (τ 0, 72, .inl ((kItr (mS1) k (g1, g2, g3, g4, g5, g6)).2.2.1))), (md 11, .inl (τ 0, 600, .inl lst)), (md 12, .inl (τ 0, 24, .inl fl)), (md 13, .inl (τ 0, 24, .inl fh)), (md 14, .inl (τ 0, 24, .inl fp))] → va_S A s.heap H locs → lv_has ls 6 [(0, .ref (md 0)), (1, .int (nI k))] → W p l e (headSpec (kWs yM_settle cM_settle 6 none) { frames := 1, cells := 0, slots := 0, locals := 29 }).room s m args below meth c H locs 0 0 Q (F0 m 2 ls []) := by
  intro n
  induction n with
  | zero =>
    intro k hk H locs ls hP hD hS hl
    have hkN : 72 = k := by omega
    subst hkN
    revert hP hD hl
    generalize hst : (kItr (mS1) 72 (g1, g2, g3, g4, g5, g6)) = st
    intro hP hD hl
    obtain ⟨vd, vh, vp, xd, xh, xp⟩ := st
    have hP : va_P D vwCl [(md 0, .inr (5, [.int th, .int (nI N), .ref (md 1), .ref (md 2), .ref (md 3), .ref (md 4), .ref (md 5), .ref (md 6), .ref (md 7), .ref (md 8), .ref (md 9), .ref (md 10), .ref (md 11), .ref (md 12), .ref (md 13), .ref (md 14), .int (nI K), .ref (md 15), .ref (md 16), .ref (md 17), .int ib, .int ch, .int rs, .ref (md 18)])), (md 1, .inl (τ 0, 576, .inl xc)), (md 2, .inl (τ 0, 3, .inl sr)), (md 3, .inl (τ 0, 72, .inl xd)), (md 4, .inl (τ 0, 72, .inl xh)), (md 5, .inl (τ 0, 72, .inl xp)), (md 6, .inl (τ 0, 3, .inl xt)), (md 8, .inl (τ 0, 72, .inl vd)), (md 9, .inl (τ 0, 72, .inl vh)), (md 10, .inl (τ 0, 72, .inl vp)), (md 11, .inl (τ 0, 600, .inl lst)), (md 12, .inl (τ 0, 24, .inl fl)), (md 13, .inl (τ 0, 24, .inl fh)), (md 14, .inl (τ 0, 24, .inl fp))] H := hP
    have hD : va_D A [(md 0, .inr (5, [.int th, .int (nI N), .ref (md 1), .ref (md 2), .ref (md 3), .ref (md 4), .ref (md 5), .ref (md 6), .ref (md 7), .ref (md 8), .ref (md 9), .ref (md 10), .ref (md 11), .ref (md 12), .ref (md 13), .ref (md 14), .int (nI K), .ref (md 15), .ref (md 16), .ref (md 17), .int ib, .int ch, .int rs, .ref (md 18)])), (md 1, .inl (τ 0, 576, .inl xc)), (md 2, .inl (τ 0, 3, .inl sr)), (md 3, .inl (τ 0, 72, .inl xd)), (md 4, .inl (τ 0, 72, .inl xh)), (md 5, .inl (τ 0, 72, .inl xp)), (md 6, .inl (τ 0, 3, .inl xt)), (md 8, .inl (τ 0, 72, .inl vd)), (md 9, .inl (τ 0, 72, .inl vh)), (md 10, .inl (τ 0, 72, .inl vp)), (md 11, .inl (τ 0, 600, .inl lst)), (md 12, .inl (τ 0, 24, .inl fl)), (md 13, .inl (τ 0, 24, .inl fh)), (md 14, .inl (τ 0, 24, .inl fp))] := hD
    have hl : lv_has ls 6 [(0, .ref (md 0)), (1, .int (nI 72))] := hl
    refine lv_iload_n hx hb dM_settle_2 rfl (lv_at hl 1 rfl) ?_
    refine lv_bipush (v := 72) hx hb dM_settle_3 (by decide) ?_
    refine lv_icmp_ge (tgt := 74) hx hb dM_settle_5 (by decide) (fun c_5 => ?_) (fun c_5 => absurd (by decide) c_5)
    exact kx H locs ls (by (try rw [hst]); exact hP) (by (try rw [hst]); exact hD) hS (by (try rw [hst]); exact lv_sub hl [0] rfl)
  | succ n ih =>
    intro k hk H locs ls hP hD hS hl
    have hkN : k < 72 := by omega
    have ih := ih (k + 1) (by omega)
    rw [kItr_s] at ih
    revert hP hD hl ih
    generalize hst : (kItr (mS1) k (g1, g2, g3, g4, g5, g6)) = st
    intro hP hD hl ih
    obtain ⟨vd, vh, vp, xd, xh, xp⟩ := st
    have hP : va_P D vwCl [(md 0, .inr (5, [.int th, .int (nI N), .ref (md 1), .ref (md 2), .ref (md 3), .ref (md 4), .ref (md 5), .ref (md 6), .ref (md 7), .ref (md 8), .ref (md 9), .ref (md 10), .ref (md 11), .ref (md 12), .ref (md 13), .ref (md 14), .int (nI K), .ref (md 15), .ref (md 16), .ref (md 17), .int ib, .int ch, .int rs, .ref (md 18)])), (md 1, .inl (τ 0, 576, .inl xc)), (md 2, .inl (τ 0, 3, .inl sr)), (md 3, .inl (τ 0, 72, .inl xd)), (md 4, .inl (τ 0, 72, .inl xh)), (md 5, .inl (τ 0, 72, .inl xp)), (md 6, .inl (τ 0, 3, .inl xt)), (md 8, .inl (τ 0, 72, .inl vd)), (md 9, .inl (τ 0, 72, .inl vh)), (md 10, .inl (τ 0, 72, .inl vp)), (md 11, .inl (τ 0, 600, .inl lst)), (md 12, .inl (τ 0, 24, .inl fl)), (md 13, .inl (τ 0, 24, .inl fh)), (md 14, .inl (τ 0, 24, .inl fp))] H := hP
    have hD : va_D A [(md 0, .inr (5, [.int th, .int (nI N), .ref (md 1), .ref (md 2), .ref (md 3), .ref (md 4), .ref (md 5), .ref (md 6), .ref (md 7), .ref (md 8), .ref (md 9), .ref (md 10), .ref (md 11), .ref (md 12), .ref (md 13), .ref (md 14), .int (nI K), .ref (md 15), .ref (md 16), .ref (md 17), .int ib, .int ch, .int rs, .ref (md 18)])), (md 1, .inl (τ 0, 576, .inl xc)), (md 2, .inl (τ 0, 3, .inl sr)), (md 3, .inl (τ 0, 72, .inl xd)), (md 4, .inl (τ 0, 72, .inl xh)), (md 5, .inl (τ 0, 72, .inl xp)), (md 6, .inl (τ 0, 3, .inl xt)), (md 8, .inl (τ 0, 72, .inl vd)), (md 9, .inl (τ 0, 72, .inl vh)), (md 10, .inl (τ 0, 72, .inl vp)), (md 11, .inl (τ 0, 600, .inl lst)), (md 12, .inl (τ 0, 24, .inl fl)), (md 13, .inl (τ 0, 24, .inl fh)), (md 14, .inl (τ 0, 24, .inl fp))] := hD
    have hl : lv_has ls 6 [(0, .ref (md 0)), (1, .int (nI k))] := hl
    refine lv_iload_n hx hb dM_settle_2 rfl (lv_at hl 1 rfl) ?_
    refine lv_bipush (v := 72) hx hb dM_settle_3 (by decide) ?_
    refine lv_icmp_ge (tgt := 74) hx hb dM_settle_5 (by decide) (fun c_5 => absurd c_5 (nI_ge (b := 72) hkN (by decide))) (fun c_5 => ?_)
    refine lv_aload_n hx hb dM_settle_8 rfl (lv_at hl 0 rfl) ?_
    refine va_get (D := D) (ci := 5) (v := .ref (md 8)) (C := RM) (T := TM) (N := 24) hx hb hts iM hown hK hP 0 rfl rfl 9 (by decide) (hts _ w_349) (fun _ h9 => h9) rfl dM_settle_9 ?_
    refine lv_iload_n hx hb dM_settle_12 rfl (lv_at hl 1 rfl) ?_
    refine lv_aload_n hx hb dM_settle_13 rfl (lv_at hl 0 rfl) ?_
    refine va_get (D := D) (ci := 5) (v := .ref (md 3)) (C := RM) (T := TM) (N := 24) hx hb hts iM hown hK hP 0 rfl rfl 4 (by decide) (hts _ w_344) (fun _ h9 => h9) rfl dM_settle_14 ?_
    refine lv_iload_n hx hb dM_settle_17 rfl (lv_at hl 1 rfl) ?_
    refine ka_iald (k := k) hx hb hK hP 3 0 rfl rfl (by omega) (by omega) rfl dM_settle_18 ?_
    refine ka_iast (k := k) hx hb hK hP hD hS 7 0 rfl rfl (by omega) (by omega) rfl dM_settle_19 (fun H locs hP hD hS => ?_)
    have hP : va_P D vwCl [(md 0, .inr (5, [.int th, .int (nI N), .ref (md 1), .ref (md 2), .ref (md 3), .ref (md 4), .ref (md 5), .ref (md 6), .ref (md 7), .ref (md 8), .ref (md 9), .ref (md 10), .ref (md 11), .ref (md 12), .ref (md 13), .ref (md 14), .int (nI K), .ref (md 15), .ref (md 16), .ref (md 17), .int ib, .int ch, .int rs, .ref (md 18)])), (md 1, .inl (τ 0, 576, .inl xc)), (md 2, .inl (τ 0, 3, .inl sr)), (md 3, .inl (τ 0, 72, .inl xd)), (md 4, .inl (τ 0, 72, .inl xh)), (md 5, .inl (τ 0, 72, .inl xp)), (md 6, .inl (τ 0, 3, .inl xt)), (md 8, .inl (τ 0, 72, .inl (upd vd k (xd k)))), (md 9, .inl (τ 0, 72, .inl vh)), (md 10, .inl (τ 0, 72, .inl vp)), (md 11, .inl (τ 0, 600, .inl lst)), (md 12, .inl (τ 0, 24, .inl fl)), (md 13, .inl (τ 0, 24, .inl fh)), (md 14, .inl (τ 0, 24, .inl fp))] H := hP
    have hD : va_D A [(md 0, .inr (5, [.int th, .int (nI N), .ref (md 1), .ref (md 2), .ref (md 3), .ref (md 4), .ref (md 5), .ref (md 6), .ref (md 7), .ref (md 8), .ref (md 9), .ref (md 10), .ref (md 11), .ref (md 12), .ref (md 13), .ref (md 14), .int (nI K), .ref (md 15), .ref (md 16), .ref (md 17), .int ib, .int ch, .int rs, .ref (md 18)])), (md 1, .inl (τ 0, 576, .inl xc)), (md 2, .inl (τ 0, 3, .inl sr)), (md 3, .inl (τ 0, 72, .inl xd)), (md 4, .inl (τ 0, 72, .inl xh)), (md 5, .inl (τ 0, 72, .inl xp)), (md 6, .inl (τ 0, 3, .inl xt)), (md 8, .inl (τ 0, 72, .inl (upd vd k (xd k)))), (md 9, .inl (τ 0, 72, .inl vh)), (md 10, .inl (τ 0, 72, .inl vp)), (md 11, .inl (τ 0, 600, .inl lst)), (md 12, .inl (τ 0, 24, .inl fl)), (md 13, .inl (τ 0, 24, .inl fh)), (md 14, .inl (τ 0, 24, .inl fp))] := hD
    refine lv_aload_n hx hb dM_settle_20 rfl (lv_at hl 0 rfl) ?_
    refine va_get (D := D) (ci := 5) (v := .ref (md 9)) (C := RM) (T := TM) (N := 24) hx hb hts iM hown hK hP 0 rfl rfl 10 (by decide) (hts _ w_350) (fun _ h9 => h9) rfl dM_settle_21 ?_
    refine lv_iload_n hx hb dM_settle_24 rfl (lv_at hl 1 rfl) ?_
    refine lv_aload_n hx hb dM_settle_25 rfl (lv_at hl 0 rfl) ?_
    refine va_get (D := D) (ci := 5) (v := .ref (md 4)) (C := RM) (T := TM) (N := 24) hx hb hts iM hown hK hP 0 rfl rfl 5 (by decide) (hts _ w_345) (fun _ h9 => h9) rfl dM_settle_26 ?_
    refine lv_iload_n hx hb dM_settle_29 rfl (lv_at hl 1 rfl) ?_
    refine ka_iald (k := k) hx hb hK hP 4 0 rfl rfl (by omega) (by omega) rfl dM_settle_30 ?_
    refine ka_iast (k := k) hx hb hK hP hD hS 8 0 rfl rfl (by omega) (by omega) rfl dM_settle_31 (fun H locs hP hD hS => ?_)
    have hP : va_P D vwCl [(md 0, .inr (5, [.int th, .int (nI N), .ref (md 1), .ref (md 2), .ref (md 3), .ref (md 4), .ref (md 5), .ref (md 6), .ref (md 7), .ref (md 8), .ref (md 9), .ref (md 10), .ref (md 11), .ref (md 12), .ref (md 13), .ref (md 14), .int (nI K), .ref (md 15), .ref (md 16), .ref (md 17), .int ib, .int ch, .int rs, .ref (md 18)])), (md 1, .inl (τ 0, 576, .inl xc)), (md 2, .inl (τ 0, 3, .inl sr)), (md 3, .inl (τ 0, 72, .inl xd)), (md 4, .inl (τ 0, 72, .inl xh)), (md 5, .inl (τ 0, 72, .inl xp)), (md 6, .inl (τ 0, 3, .inl xt)), (md 8, .inl (τ 0, 72, .inl (upd vd k (xd k)))), (md 9, .inl (τ 0, 72, .inl (upd vh k (xh k)))), (md 10, .inl (τ 0, 72, .inl vp)), (md 11, .inl (τ 0, 600, .inl lst)), (md 12, .inl (τ 0, 24, .inl fl)), (md 13, .inl (τ 0, 24, .inl fh)), (md 14, .inl (τ 0, 24, .inl fp))] H := hP
    have hD : va_D A [(md 0, .inr (5, [.int th, .int (nI N), .ref (md 1), .ref (md 2), .ref (md 3), .ref (md 4), .ref (md 5), .ref (md 6), .ref (md 7), .ref (md 8), .ref (md 9), .ref (md 10), .ref (md 11), .ref (md 12), .ref (md 13), .ref (md 14), .int (nI K), .ref (md 15), .ref (md 16), .ref (md 17), .int ib, .int ch, .int rs, .ref (md 18)])), (md 1, .inl (τ 0, 576, .inl xc)), (md 2, .inl (τ 0, 3, .inl sr)), (md 3, .inl (τ 0, 72, .inl xd)), (md 4, .inl (τ 0, 72, .inl xh)), (md 5, .inl (τ 0, 72, .inl xp)), (md 6, .inl (τ 0, 3, .inl xt)), (md 8, .inl (τ 0, 72, .inl (upd vd k (xd k)))), (md 9, .inl (τ 0, 72, .inl (upd vh k (xh k)))), (md 10, .inl (τ 0, 72, .inl vp)), (md 11, .inl (τ 0, 600, .inl lst)), (md 12, .inl (τ 0, 24, .inl fl)), (md 13, .inl (τ 0, 24, .inl fh)), (md 14, .inl (τ 0, 24, .inl fp))] := hD
    refine lv_aload_n hx hb dM_settle_32 rfl (lv_at hl 0 rfl) ?_
    refine va_get (D := D) (ci := 5) (v := .ref (md 10)) (C := RM) (T := TM) (N := 24) hx hb hts iM hown hK hP 0 rfl rfl 11 (by decide) (hts _ w_351) (fun _ h9 => h9) rfl dM_settle_33 ?_
    refine lv_iload_n hx hb dM_settle_36 rfl (lv_at hl 1 rfl) ?_
    refine lv_aload_n hx hb dM_settle_37 rfl (lv_at hl 0 rfl) ?_
    refine va_get (D := D) (ci := 5) (v := .ref (md 5)) (C := RM) (T := TM) (N := 24) hx hb hts iM hown hK hP 0 rfl rfl 6 (by decide) (hts _ w_346) (fun _ h9 => h9) rfl dM_settle_38 ?_
    refine lv_iload_n hx hb dM_settle_41 rfl (lv_at hl 1 rfl) ?_
    refine ka_iald (k := k) hx hb hK hP 5 0 rfl rfl (by omega) (by omega) rfl dM_settle_42 ?_
    refine ka_iast (k := k) hx hb hK hP hD hS 9 0 rfl rfl (by omega) (by omega) rfl dM_settle_43 (fun H locs hP hD hS => ?_)
    have hP : va_P D vwCl [(md 0, .inr (5, [.int th, .int (nI N), .ref (md 1), .ref (md 2), .ref (md 3), .ref (md 4), .ref (md 5), .ref (md 6), .ref (md 7), .ref (md 8), .ref (md 9), .ref (md 10), .ref (md 11), .ref (md 12), .ref (md 13), .ref (md 14), .int (nI K), .ref (md 15), .ref (md 16), .ref (md 17), .int ib, .int ch, .int rs, .ref (md 18)])), (md 1, .inl (τ 0, 576, .inl xc)), (md 2, .inl (τ 0, 3, .inl sr)), (md 3, .inl (τ 0, 72, .inl xd)), (md 4, .inl (τ 0, 72, .inl xh)), (md 5, .inl (τ 0, 72, .inl xp)), (md 6, .inl (τ 0, 3, .inl xt)), (md 8, .inl (τ 0, 72, .inl (upd vd k (xd k)))), (md 9, .inl (τ 0, 72, .inl (upd vh k (xh k)))), (md 10, .inl (τ 0, 72, .inl (upd vp k (xp k)))), (md 11, .inl (τ 0, 600, .inl lst)), (md 12, .inl (τ 0, 24, .inl fl)), (md 13, .inl (τ 0, 24, .inl fh)), (md 14, .inl (τ 0, 24, .inl fp))] H := hP
    have hD : va_D A [(md 0, .inr (5, [.int th, .int (nI N), .ref (md 1), .ref (md 2), .ref (md 3), .ref (md 4), .ref (md 5), .ref (md 6), .ref (md 7), .ref (md 8), .ref (md 9), .ref (md 10), .ref (md 11), .ref (md 12), .ref (md 13), .ref (md 14), .int (nI K), .ref (md 15), .ref (md 16), .ref (md 17), .int ib, .int ch, .int rs, .ref (md 18)])), (md 1, .inl (τ 0, 576, .inl xc)), (md 2, .inl (τ 0, 3, .inl sr)), (md 3, .inl (τ 0, 72, .inl xd)), (md 4, .inl (τ 0, 72, .inl xh)), (md 5, .inl (τ 0, 72, .inl xp)), (md 6, .inl (τ 0, 3, .inl xt)), (md 8, .inl (τ 0, 72, .inl (upd vd k (xd k)))), (md 9, .inl (τ 0, 72, .inl (upd vh k (xh k)))), (md 10, .inl (τ 0, 72, .inl (upd vp k (xp k)))), (md 11, .inl (τ 0, 600, .inl lst)), (md 12, .inl (τ 0, 24, .inl fl)), (md 13, .inl (τ 0, 24, .inl fh)), (md 14, .inl (τ 0, 24, .inl fp))] := hD
    refine lv_aload_n hx hb dM_settle_44 rfl (lv_at hl 0 rfl) ?_
    refine va_get (D := D) (ci := 5) (v := .ref (md 3)) (C := RM) (T := TM) (N := 24) hx hb hts iM hown hK hP 0 rfl rfl 4 (by decide) (hts _ w_344) (fun _ h9 => h9) rfl dM_settle_45 ?_
    refine lv_iload_n hx hb dM_settle_48 rfl (lv_at hl 1 rfl) ?_
    refine lv_ldc (v := (-1000000)) hx hb hown (hts _ w_335) dM_settle_49 ?_
    refine ka_iast (k := k) hx hb hK hP hD hS 3 0 rfl rfl (by omega) (by omega) rfl dM_settle_51 (fun H locs hP hD hS => ?_)
    have hP : va_P D vwCl [(md 0, .inr (5, [.int th, .int (nI N), .ref (md 1), .ref (md 2), .ref (md 3), .ref (md 4), .ref (md 5), .ref (md 6), .ref (md 7), .ref (md 8), .ref (md 9), .ref (md 10), .ref (md 11), .ref (md 12), .ref (md 13), .ref (md 14), .int (nI K), .ref (md 15), .ref (md 16), .ref (md 17), .int ib, .int ch, .int rs, .ref (md 18)])), (md 1, .inl (τ 0, 576, .inl xc)), (md 2, .inl (τ 0, 3, .inl sr)), (md 3, .inl (τ 0, 72, .inl (upd xd k (-1000000)))), (md 4, .inl (τ 0, 72, .inl xh)), (md 5, .inl (τ 0, 72, .inl xp)), (md 6, .inl (τ 0, 3, .inl xt)), (md 8, .inl (τ 0, 72, .inl (upd vd k (xd k)))), (md 9, .inl (τ 0, 72, .inl (upd vh k (xh k)))), (md 10, .inl (τ 0, 72, .inl (upd vp k (xp k)))), (md 11, .inl (τ 0, 600, .inl lst)), (md 12, .inl (τ 0, 24, .inl fl)), (md 13, .inl (τ 0, 24, .inl fh)), (md 14, .inl (τ 0, 24, .inl fp))] H := hP
    have hD : va_D A [(md 0, .inr (5, [.int th, .int (nI N), .ref (md 1), .ref (md 2), .ref (md 3), .ref (md 4), .ref (md 5), .ref (md 6), .ref (md 7), .ref (md 8), .ref (md 9), .ref (md 10), .ref (md 11), .ref (md 12), .ref (md 13), .ref (md 14), .int (nI K), .ref (md 15), .ref (md 16), .ref (md 17), .int ib, .int ch, .int rs, .ref (md 18)])), (md 1, .inl (τ 0, 576, .inl xc)), (md 2, .inl (τ 0, 3, .inl sr)), (md 3, .inl (τ 0, 72, .inl (upd xd k (-1000000)))), (md 4, .inl (τ 0, 72, .inl xh)), (md 5, .inl (τ 0, 72, .inl xp)), (md 6, .inl (τ 0, 3, .inl xt)), (md 8, .inl (τ 0, 72, .inl (upd vd k (xd k)))), (md 9, .inl (τ 0, 72, .inl (upd vh k (xh k)))), (md 10, .inl (τ 0, 72, .inl (upd vp k (xp k)))), (md 11, .inl (τ 0, 600, .inl lst)), (md 12, .inl (τ 0, 24, .inl fl)), (md 13, .inl (τ 0, 24, .inl fh)), (md 14, .inl (τ 0, 24, .inl fp))] := hD
    refine lv_aload_n hx hb dM_settle_52 rfl (lv_at hl 0 rfl) ?_
    refine va_get (D := D) (ci := 5) (v := .ref (md 4)) (C := RM) (T := TM) (N := 24) hx hb hts iM hown hK hP 0 rfl rfl 5 (by decide) (hts _ w_345) (fun _ h9 => h9) rfl dM_settle_53 ?_
    refine lv_iload_n hx hb dM_settle_56 rfl (lv_at hl 1 rfl) ?_
    refine lv_ldc (v := (-1000000)) hx hb hown (hts _ w_335) dM_settle_57 ?_
    refine ka_iast (k := k) hx hb hK hP hD hS 4 0 rfl rfl (by omega) (by omega) rfl dM_settle_59 (fun H locs hP hD hS => ?_)
    have hP : va_P D vwCl [(md 0, .inr (5, [.int th, .int (nI N), .ref (md 1), .ref (md 2), .ref (md 3), .ref (md 4), .ref (md 5), .ref (md 6), .ref (md 7), .ref (md 8), .ref (md 9), .ref (md 10), .ref (md 11), .ref (md 12), .ref (md 13), .ref (md 14), .int (nI K), .ref (md 15), .ref (md 16), .ref (md 17), .int ib, .int ch, .int rs, .ref (md 18)])), (md 1, .inl (τ 0, 576, .inl xc)), (md 2, .inl (τ 0, 3, .inl sr)), (md 3, .inl (τ 0, 72, .inl (upd xd k (-1000000)))), (md 4, .inl (τ 0, 72, .inl (upd xh k (-1000000)))), (md 5, .inl (τ 0, 72, .inl xp)), (md 6, .inl (τ 0, 3, .inl xt)), (md 8, .inl (τ 0, 72, .inl (upd vd k (xd k)))), (md 9, .inl (τ 0, 72, .inl (upd vh k (xh k)))), (md 10, .inl (τ 0, 72, .inl (upd vp k (xp k)))), (md 11, .inl (τ 0, 600, .inl lst)), (md 12, .inl (τ 0, 24, .inl fl)), (md 13, .inl (τ 0, 24, .inl fh)), (md 14, .inl (τ 0, 24, .inl fp))] H := hP
    have hD : va_D A [(md 0, .inr (5, [.int th, .int (nI N), .ref (md 1), .ref (md 2), .ref (md 3), .ref (md 4), .ref (md 5), .ref (md 6), .ref (md 7), .ref (md 8), .ref (md 9), .ref (md 10), .ref (md 11), .ref (md 12), .ref (md 13), .ref (md 14), .int (nI K), .ref (md 15), .ref (md 16), .ref (md 17), .int ib, .int ch, .int rs, .ref (md 18)])), (md 1, .inl (τ 0, 576, .inl xc)), (md 2, .inl (τ 0, 3, .inl sr)), (md 3, .inl (τ 0, 72, .inl (upd xd k (-1000000)))), (md 4, .inl (τ 0, 72, .inl (upd xh k (-1000000)))), (md 5, .inl (τ 0, 72, .inl xp)), (md 6, .inl (τ 0, 3, .inl xt)), (md 8, .inl (τ 0, 72, .inl (upd vd k (xd k)))), (md 9, .inl (τ 0, 72, .inl (upd vh k (xh k)))), (md 10, .inl (τ 0, 72, .inl (upd vp k (xp k)))), (md 11, .inl (τ 0, 600, .inl lst)), (md 12, .inl (τ 0, 24, .inl fl)), (md 13, .inl (τ 0, 24, .inl fh)), (md 14, .inl (τ 0, 24, .inl fp))] := hD
    refine lv_aload_n hx hb dM_settle_60 rfl (lv_at hl 0 rfl) ?_
    refine va_get (D := D) (ci := 5) (v := .ref (md 5)) (C := RM) (T := TM) (N := 24) hx hb hts iM hown hK hP 0 rfl rfl 6 (by decide) (hts _ w_346) (fun _ h9 => h9) rfl dM_settle_61 ?_
    refine lv_iload_n hx hb dM_settle_64 rfl (lv_at hl 1 rfl) ?_
    refine lv_ldc (v := (-1000000)) hx hb hown (hts _ w_335) dM_settle_65 ?_
    refine ka_iast (k := k) hx hb hK hP hD hS 5 0 rfl rfl (by omega) (by omega) rfl dM_settle_67 (fun H locs hP hD hS => ?_)
    have hP : va_P D vwCl [(md 0, .inr (5, [.int th, .int (nI N), .ref (md 1), .ref (md 2), .ref (md 3), .ref (md 4), .ref (md 5), .ref (md 6), .ref (md 7), .ref (md 8), .ref (md 9), .ref (md 10), .ref (md 11), .ref (md 12), .ref (md 13), .ref (md 14), .int (nI K), .ref (md 15), .ref (md 16), .ref (md 17), .int ib, .int ch, .int rs, .ref (md 18)])), (md 1, .inl (τ 0, 576, .inl xc)), (md 2, .inl (τ 0, 3, .inl sr)), (md 3, .inl (τ 0, 72, .inl (upd xd k (-1000000)))), (md 4, .inl (τ 0, 72, .inl (upd xh k (-1000000)))), (md 5, .inl (τ 0, 72, .inl (upd xp k (-1000000)))), (md 6, .inl (τ 0, 3, .inl xt)), (md 8, .inl (τ 0, 72, .inl (upd vd k (xd k)))), (md 9, .inl (τ 0, 72, .inl (upd vh k (xh k)))), (md 10, .inl (τ 0, 72, .inl (upd vp k (xp k)))), (md 11, .inl (τ 0, 600, .inl lst)), (md 12, .inl (τ 0, 24, .inl fl)), (md 13, .inl (τ 0, 24, .inl fh)), (md 14, .inl (τ 0, 24, .inl fp))] H := hP
    have hD : va_D A [(md 0, .inr (5, [.int th, .int (nI N), .ref (md 1), .ref (md 2), .ref (md 3), .ref (md 4), .ref (md 5), .ref (md 6), .ref (md 7), .ref (md 8), .ref (md 9), .ref (md 10), .ref (md 11), .ref (md 12), .ref (md 13), .ref (md 14), .int (nI K), .ref (md 15), .ref (md 16), .ref (md 17), .int ib, .int ch, .int rs, .ref (md 18)])), (md 1, .inl (τ 0, 576, .inl xc)), (md 2, .inl (τ 0, 3, .inl sr)), (md 3, .inl (τ 0, 72, .inl (upd xd k (-1000000)))), (md 4, .inl (τ 0, 72, .inl (upd xh k (-1000000)))), (md 5, .inl (τ 0, 72, .inl (upd xp k (-1000000)))), (md 6, .inl (τ 0, 3, .inl xt)), (md 8, .inl (τ 0, 72, .inl (upd vd k (xd k)))), (md 9, .inl (τ 0, 72, .inl (upd vh k (xh k)))), (md 10, .inl (τ 0, 72, .inl (upd vp k (xp k)))), (md 11, .inl (τ 0, 600, .inl lst)), (md 12, .inl (τ 0, 24, .inl fl)), (md 13, .inl (τ 0, 24, .inl fh)), (md 14, .inl (τ 0, 24, .inl fp))] := hD
    refine lv_iinc (v := nI (k + 1)) (lv' := [(1, .int (nI (k + 1))), (0, .ref (md 0))]) hx hb dM_settle_68 hl (k := 1) rfl (nI_1 _) (by decide) rfl (fun ls hl => ?_)
    refine lv_goto (tgt := 2) hx hb dM_settle_71 (by decide) ?_
    have e_ : (mS1) k (vd, vh, vp, xd, xh, xp) = (upd vd k (xd k), upd vh k (xh k), upd vp k (xp k), upd xd k (-1000000), upd xh k (-1000000), upd xp k (-1000000)) := by rfl
    (try rw [e_] at ih)
    exact ih H locs ls hP hD hS (lv_sub hl [1, 0] rfl)
set_option maxHeartbeats 4000000 in
set_option maxRecDepth 100000 in
theorem lm_s4 {p : Program} {l : Launch} {e : Env} {s : State} {m : MethodId} {args : Array Value} {below : List Frame} {meth : Method} {c : Code} {Q : State → Prop} {D : va_G} {τ : Nat → ClassId} {A : Nat → Prop} (hx : p.tables.exec = Jvm.exec) (hb : c.code = cM_settle) (hml : c.maxLocals = 6) (hown : s.vm.findClass RM = some m.cls) (hts : ∀ w ∈ kTbl, w.before args s = true) (hK : va_K D vwCl (kTys τ) s) (hA : ∀ q : Nat, s.heap.size ≤ q → A q) (md : Nat → Nat) (th : Int32) (N : Nat) (K : Nat) (ib : Int32) (ch : Int32) (rs : Int32) (xc : Nat → Int32) (sr : Nat → Int32) (xd : Nat → Int32) (xh : Nat → Int32) (xp : Nat → Int32) (vd : Nat → Int32) (vh : Nat → Int32) (vp : Nat → Int32) (lst : Nat → Int32) (fl : Nat → Int32) (fh : Nat → Int32) (fp : Nat → Int32) (z : Nat) (v : Nat) (iz : Int32) (g : Nat → Int32) (hN : N ≤ 24) (hz : z < 3) (hv : v < N) (hiz : iz = 0 ↔ fl v = 1000000)
    (kx : ∀ (H : Heap) (locs : List Loc) (ls : Array Slot), va_P D vwCl [(md 0, .inr (5, [.int th, .int (nI N), .ref (md 1), .ref (md 2), .ref (md 3), .ref (md 4), .ref (md 5), .ref (md 6), .ref (md 7), .ref (md 8), .ref (md 9), .ref (md 10), .ref (md 11), .ref (md 12), .ref (md 13), .ref (md 14), .int (nI K), .ref (md 15), .ref (md 16), .ref (md 17), .int ib, .int ch, .int rs, .ref (md 18)])), (md 1, .inl (τ 0, 576, .inl xc)), (md 2, .inl (τ 0, 3, .inl sr)), (md 3, .inl (τ 0, 72, .inl xd)), (md 4, .inl (τ 0, 72, .inl xh)), (md 5, .inl (τ 0, 72, .inl xp)), (md 6, .inl (τ 0, 3, .inl (kItr (mS4 xc fl z v) N (g)))), (md 8, .inl (τ 0, 72, .inl vd)), (md 9, .inl (τ 0, 72, .inl vh)), (md 10, .inl (τ 0, 72, .inl vp)), (md 11, .inl (τ 0, 600, .inl lst)), (md 12, .inl (τ 0, 24, .inl fl)), (md 13, .inl (τ 0, 24, .inl fh)), (md 14, .inl (τ 0, 24, .inl fp))] H → va_D A [(md 0, .inr (5, [.int th, .int (nI N), .ref (md 1), .ref (md 2), .ref (md 3), .ref (md 4), .ref (md 5), .ref (md 6), .ref (md 7), .ref (md 8), .ref (md 9), .ref (md 10), .ref (md 11), .ref (md 12), .ref (md 13), .ref (md 14), .int (nI K), .ref (md 15), .ref (md 16), .ref (md 17), .int ib, .int ch, .int rs, .ref (md 18)])), (md 1, .inl (τ 0, 576, .inl xc)), (md 2, .inl (τ 0, 3, .inl sr)), (md 3, .inl (τ 0, 72, .inl xd)), (md 4, .inl (τ 0, 72, .inl xh)), (md 5, .inl (τ 0, 72, .inl xp)), (md 6, .inl (τ 0, 3, .inl (kItr (mS4 xc fl z v) N (g)))), (md 8, .inl (τ 0, 72, .inl vd)), (md 9, .inl (τ 0, 72, .inl vh)), (md 10, .inl (τ 0, 72, .inl vp)), (md 11, .inl (τ 0, 600, .inl lst)), (md 12, .inl (τ 0, 24, .inl fl)), (md 13, .inl (τ 0, 24, .inl fh)), (md 14, .inl (τ 0, 24, .inl fp))] → va_S A s.heap H locs → lv_has ls 6 [(0, .ref (md 0)), (1, .int (nI z)), (2, .int (nI v))] → W p l e (headSpec (kWs yM_settle cM_settle 6 none) { frames := 1, cells := 0, slots := 0, locals := 29 }).room s m args below meth c H locs 0 0 Q (F0 m 299 ls [])) :
    ∀ (n k : Nat), k + n = N → ∀ (H : Heap) (locs : List Loc) (ls : Array Slot), va_P D vwCl [(md 0, .inr (5, [.int th, .int (nI N), .ref (md 1), .ref (md 2), .ref (md 3), .ref (md 4), .ref (md 5), .ref (md 6), .ref (md 7), .ref (md 8), .ref (md 9), .ref (md 10), .ref (md 11), .ref (md 12), .ref (md 13), .ref (md 14), .int (nI K), .ref (md 15), .ref (md 16), .ref (md 17), .int ib, .int ch, .int rs, .ref (md 18)])), (md 1, .inl (τ 0, 576, .inl xc)), (md 2, .inl (τ 0, 3, .inl sr)), (md 3, .inl (τ 0, 72, .inl xd)), (md 4, .inl (τ 0, 72, .inl xh)), (md 5, .inl (τ 0, 72, .inl xp)), (md 6, .inl (τ 0, 3, .inl (kItr (mS4 xc fl z v) k (g)))), (md 8, .inl (τ 0, 72, .inl vd)), (md 9, .inl (τ 0, 72, .inl vh)), (md 10, .inl (τ 0, 72, .inl vp)), (md 11, .inl (τ 0, 600, .inl lst)), (md 12, .inl (τ 0, 24, .inl fl)), (md 13, .inl (τ 0, 24, .inl fh)), (md 14, .inl (τ 0, 24, .inl fp))] H → va_D A [(md 0, .inr (5, [.int th, .int (nI N), .ref (md 1), .ref (md 2), .ref (md 3), .ref (md 4), .ref (md 5), .ref (md 6), .ref (md 7), .ref (md 8), .ref (md 9), .ref (md 10), .ref (md 11), .ref (md 12), .ref (md 13), .ref (md 14), .int (nI K), .ref (md 15), .ref (md 16), .ref (md 17), .int ib, .int ch, .int rs, .ref (md 18)])), (md 1, .inl (τ 0, 576, .inl xc)), (md 2, .inl (τ 0, 3, .inl sr)), (md 3, .inl (τ 0, 72, .inl xd)), (md 4, .inl (τ 0, 72, .inl xh)), (md 5, .inl (τ 0, 72, .inl xp)), (md 6, .inl (τ 0, 3, .inl (kItr (mS4 xc fl z v) k (g)))), (md 8, .inl (τ 0, 72, .inl vd)), (md 9, .inl (τ 0, 72, .inl vh)), (md 10, .inl (τ 0, 72, .inl vp)), (md 11, .inl (τ 0, 600, .inl lst)), (md 12, .inl (τ 0, 24, .inl fl)), (md 13, .inl (τ 0, 24, .inl fh)), (md 14, .inl (τ 0, 24, .inl fp))] → va_S A s.heap H locs → lv_has ls 6 [(0, .ref (md 0)), (1, .int (nI z)), (2, .int (nI v)), (3, .int iz), (4, .int (nI k))] → W p l e (headSpec (kWs yM_settle cM_settle 6 none) { frames := 1, cells := 0, slots := 0, locals := 29 }).room s m args below meth c H locs 0 0 Q (F0 m 199 ls []) := by
  intro n
  induction n with
  | zero =>
    intro k hk H locs ls hP hD hS hl
    have hkN : N = k := by omega
    subst hkN
    revert hP hD hl
    generalize hst : (kItr (mS4 xc fl z v) N (g)) = xt
    intro hP hD hl
    have hP : va_P D vwCl [(md 0, .inr (5, [.int th, .int (nI N), .ref (md 1), .ref (md 2), .ref (md 3), .ref (md 4), .ref (md 5), .ref (md 6), .ref (md 7), .ref (md 8), .ref (md 9), .ref (md 10), .ref (md 11), .ref (md 12), .ref (md 13), .ref (md 14), .int (nI K), .ref (md 15), .ref (md 16), .ref (md 17), .int ib, .int ch, .int rs, .ref (md 18)])), (md 1, .inl (τ 0, 576, .inl xc)), (md 2, .inl (τ 0, 3, .inl sr)), (md 3, .inl (τ 0, 72, .inl xd)), (md 4, .inl (τ 0, 72, .inl xh)), (md 5, .inl (τ 0, 72, .inl xp)), (md 6, .inl (τ 0, 3, .inl xt)), (md 8, .inl (τ 0, 72, .inl vd)), (md 9, .inl (τ 0, 72, .inl vh)), (md 10, .inl (τ 0, 72, .inl vp)), (md 11, .inl (τ 0, 600, .inl lst)), (md 12, .inl (τ 0, 24, .inl fl)), (md 13, .inl (τ 0, 24, .inl fh)), (md 14, .inl (τ 0, 24, .inl fp))] H := hP
    have hD : va_D A [(md 0, .inr (5, [.int th, .int (nI N), .ref (md 1), .ref (md 2), .ref (md 3), .ref (md 4), .ref (md 5), .ref (md 6), .ref (md 7), .ref (md 8), .ref (md 9), .ref (md 10), .ref (md 11), .ref (md 12), .ref (md 13), .ref (md 14), .int (nI K), .ref (md 15), .ref (md 16), .ref (md 17), .int ib, .int ch, .int rs, .ref (md 18)])), (md 1, .inl (τ 0, 576, .inl xc)), (md 2, .inl (τ 0, 3, .inl sr)), (md 3, .inl (τ 0, 72, .inl xd)), (md 4, .inl (τ 0, 72, .inl xh)), (md 5, .inl (τ 0, 72, .inl xp)), (md 6, .inl (τ 0, 3, .inl xt)), (md 8, .inl (τ 0, 72, .inl vd)), (md 9, .inl (τ 0, 72, .inl vh)), (md 10, .inl (τ 0, 72, .inl vp)), (md 11, .inl (τ 0, 600, .inl lst)), (md 12, .inl (τ 0, 24, .inl fl)), (md 13, .inl (τ 0, 24, .inl fh)), (md 14, .inl (τ 0, 24, .inl fp))] := hD
    have hl : lv_has ls 6 [(0, .ref (md 0)), (1, .int (nI z)), (2, .int (nI v)), (3, .int iz), (4, .int (nI N))] := hl
    refine lv_iload hx hb dM_settle_199 (lv_at hl 4 rfl) ?_
    refine lv_aload_n hx hb dM_settle_201 rfl (lv_at hl 0 rfl) ?_
    refine va_get (D := D) (ci := 5) (v := .int (nI N)) (C := RM) (T := TM) (N := 24) hx hb hts iM hown hK hP 0 rfl rfl 1 (by decide) (hts _ w_341) (fun _ h9 => h9) rfl dM_settle_202 ?_
    refine lv_icmp_ge (tgt := 299) hx hb dM_settle_205 (by decide) (fun c_205 => ?_) (fun c_205 => absurd (nI_le (Nat.le_refl _) (by omega)) c_205)
    exact kx H locs ls (by (try rw [hst]); exact hP) (by (try rw [hst]); exact hD) hS (by (try rw [hst]); exact lv_sub hl [0, 1, 2] rfl)
  | succ n ih =>
    intro k hk H locs ls hP hD hS hl
    have hkN : k < N := by omega
    have ih := ih (k + 1) (by omega)
    rw [kItr_s] at ih
    revert hP hD hl ih
    generalize hst : (kItr (mS4 xc fl z v) k (g)) = xt
    intro hP hD hl ih
    have hP : va_P D vwCl [(md 0, .inr (5, [.int th, .int (nI N), .ref (md 1), .ref (md 2), .ref (md 3), .ref (md 4), .ref (md 5), .ref (md 6), .ref (md 7), .ref (md 8), .ref (md 9), .ref (md 10), .ref (md 11), .ref (md 12), .ref (md 13), .ref (md 14), .int (nI K), .ref (md 15), .ref (md 16), .ref (md 17), .int ib, .int ch, .int rs, .ref (md 18)])), (md 1, .inl (τ 0, 576, .inl xc)), (md 2, .inl (τ 0, 3, .inl sr)), (md 3, .inl (τ 0, 72, .inl xd)), (md 4, .inl (τ 0, 72, .inl xh)), (md 5, .inl (τ 0, 72, .inl xp)), (md 6, .inl (τ 0, 3, .inl xt)), (md 8, .inl (τ 0, 72, .inl vd)), (md 9, .inl (τ 0, 72, .inl vh)), (md 10, .inl (τ 0, 72, .inl vp)), (md 11, .inl (τ 0, 600, .inl lst)), (md 12, .inl (τ 0, 24, .inl fl)), (md 13, .inl (τ 0, 24, .inl fh)), (md 14, .inl (τ 0, 24, .inl fp))] H := hP
    have hD : va_D A [(md 0, .inr (5, [.int th, .int (nI N), .ref (md 1), .ref (md 2), .ref (md 3), .ref (md 4), .ref (md 5), .ref (md 6), .ref (md 7), .ref (md 8), .ref (md 9), .ref (md 10), .ref (md 11), .ref (md 12), .ref (md 13), .ref (md 14), .int (nI K), .ref (md 15), .ref (md 16), .ref (md 17), .int ib, .int ch, .int rs, .ref (md 18)])), (md 1, .inl (τ 0, 576, .inl xc)), (md 2, .inl (τ 0, 3, .inl sr)), (md 3, .inl (τ 0, 72, .inl xd)), (md 4, .inl (τ 0, 72, .inl xh)), (md 5, .inl (τ 0, 72, .inl xp)), (md 6, .inl (τ 0, 3, .inl xt)), (md 8, .inl (τ 0, 72, .inl vd)), (md 9, .inl (τ 0, 72, .inl vh)), (md 10, .inl (τ 0, 72, .inl vp)), (md 11, .inl (τ 0, 600, .inl lst)), (md 12, .inl (τ 0, 24, .inl fl)), (md 13, .inl (τ 0, 24, .inl fh)), (md 14, .inl (τ 0, 24, .inl fp))] := hD
    have hl : lv_has ls 6 [(0, .ref (md 0)), (1, .int (nI z)), (2, .int (nI v)), (3, .int iz), (4, .int (nI k))] := hl
    refine lv_iload hx hb dM_settle_199 (lv_at hl 4 rfl) ?_
    refine lv_aload_n hx hb dM_settle_201 rfl (lv_at hl 0 rfl) ?_
    refine va_get (D := D) (ci := 5) (v := .int (nI N)) (C := RM) (T := TM) (N := 24) hx hb hts iM hown hK hP 0 rfl rfl 1 (by decide) (hts _ w_341) (fun _ h9 => h9) rfl dM_settle_202 ?_
    refine lv_icmp_ge (tgt := 299) hx hb dM_settle_205 (by decide) (fun c_205 => absurd c_205 (nI_ge hkN (by omega))) (fun c_205 => ?_)
    refine lv_iload_n hx hb dM_settle_208 rfl (lv_at hl 3 rfl) ?_
    refine lv_if_eq (tgt := 262) hx hb dM_settle_209 (by decide) (fun c_209 => ?_) (fun c_209 => ?_)
    · skip
      refine lv_iconst (v := 0) hx hb dM_settle_262 (by decide) ?_
      refine lv_istore (lv' := [(5, .int 0), (0, .ref (md 0)), (1, .int (nI z)), (2, .int (nI v)), (3, .int iz), (4, .int (nI k))]) hx hb dM_settle_263 hl (by decide) rfl (fun ls hl => ?_)
      refine lv_aload_n hx hb dM_settle_265 rfl (lv_at hl 1 rfl) ?_
      refine va_get (D := D) (ci := 5) (v := .ref (md 6)) (C := RM) (T := TM) (N := 24) hx hb hts iM hown hK hP 0 rfl rfl 7 (by decide) (hts _ w_347) (fun _ h9 => h9) rfl dM_settle_266 ?_
      refine lv_iload_n hx hb dM_settle_269 rfl (lv_at hl 2 rfl) ?_
      refine lv_iload hx hb dM_settle_270 (lv_at hl 0 rfl) ?_
      refine lv_if_eq (tgt := 286) hx hb dM_settle_272 (by decide) (fun c_272 => ?_) (fun c_272 => absurd c_272 (by decide))
      refine lv_aload_n hx hb dM_settle_286 rfl (lv_at hl 1 rfl) ?_
      refine va_get (D := D) (ci := 5) (v := .ref (md 6)) (C := RM) (T := TM) (N := 24) hx hb hts iM hown hK hP 0 rfl rfl 7 (by decide) (hts _ w_347) (fun _ h9 => h9) rfl dM_settle_287 ?_
      refine lv_iload_n hx hb dM_settle_290 rfl (lv_at hl 2 rfl) ?_
      refine ka_iald (k := z) hx hb hK hP 6 0 rfl rfl (by omega) (by omega) rfl dM_settle_291 ?_
      refine ka_iast (k := z) hx hb hK hP hD hS 6 0 rfl rfl (by omega) (by omega) rfl dM_settle_292 (fun H locs hP hD hS => ?_)
      have hP : va_P D vwCl [(md 0, .inr (5, [.int th, .int (nI N), .ref (md 1), .ref (md 2), .ref (md 3), .ref (md 4), .ref (md 5), .ref (md 6), .ref (md 7), .ref (md 8), .ref (md 9), .ref (md 10), .ref (md 11), .ref (md 12), .ref (md 13), .ref (md 14), .int (nI K), .ref (md 15), .ref (md 16), .ref (md 17), .int ib, .int ch, .int rs, .ref (md 18)])), (md 1, .inl (τ 0, 576, .inl xc)), (md 2, .inl (τ 0, 3, .inl sr)), (md 3, .inl (τ 0, 72, .inl xd)), (md 4, .inl (τ 0, 72, .inl xh)), (md 5, .inl (τ 0, 72, .inl xp)), (md 6, .inl (τ 0, 3, .inl (upd xt z (xt z)))), (md 8, .inl (τ 0, 72, .inl vd)), (md 9, .inl (τ 0, 72, .inl vh)), (md 10, .inl (τ 0, 72, .inl vp)), (md 11, .inl (τ 0, 600, .inl lst)), (md 12, .inl (τ 0, 24, .inl fl)), (md 13, .inl (τ 0, 24, .inl fh)), (md 14, .inl (τ 0, 24, .inl fp))] H := hP
      have hD : va_D A [(md 0, .inr (5, [.int th, .int (nI N), .ref (md 1), .ref (md 2), .ref (md 3), .ref (md 4), .ref (md 5), .ref (md 6), .ref (md 7), .ref (md 8), .ref (md 9), .ref (md 10), .ref (md 11), .ref (md 12), .ref (md 13), .ref (md 14), .int (nI K), .ref (md 15), .ref (md 16), .ref (md 17), .int ib, .int ch, .int rs, .ref (md 18)])), (md 1, .inl (τ 0, 576, .inl xc)), (md 2, .inl (τ 0, 3, .inl sr)), (md 3, .inl (τ 0, 72, .inl xd)), (md 4, .inl (τ 0, 72, .inl xh)), (md 5, .inl (τ 0, 72, .inl xp)), (md 6, .inl (τ 0, 3, .inl (upd xt z (xt z)))), (md 8, .inl (τ 0, 72, .inl vd)), (md 9, .inl (τ 0, 72, .inl vh)), (md 10, .inl (τ 0, 72, .inl vp)), (md 11, .inl (τ 0, 600, .inl lst)), (md 12, .inl (τ 0, 24, .inl fl)), (md 13, .inl (τ 0, 24, .inl fh)), (md 14, .inl (τ 0, 24, .inl fp))] := hD
      refine lv_iinc (v := nI (k + 1)) (lv' := [(4, .int (nI (k + 1))), (5, .int 0), (0, .ref (md 0)), (1, .int (nI z)), (2, .int (nI v)), (3, .int iz)]) hx hb dM_settle_293 hl (k := 5) rfl (nI_1 _) (by decide) rfl (fun ls hl => ?_)
      refine lv_goto (tgt := 199) hx hb dM_settle_296 (by decide) ?_
      have e_ : (mS4 xc fl z v) k (xt) = (upd xt z (xt z)) := by unfold mS4; exact kIf_f (fun q => q.1 (hiz.mp c_209))
      (try rw [e_] at ih)
      exact ih H locs ls hP hD hS (lv_sub hl [2, 3, 4, 5, 0] rfl)
    · skip
      refine lv_aload_n hx hb dM_settle_212 rfl (lv_at hl 0 rfl) ?_
      refine va_get (D := D) (ci := 5) (v := .ref (md 1)) (C := RM) (T := TM) (N := 24) hx hb hts iM hown hK hP 0 rfl rfl 2 (by decide) (hts _ w_342) (fun _ h9 => h9) rfl dM_settle_213 ?_
      refine lv_bipush (v := 24) hx hb dM_settle_216 (by decide) ?_
      refine lv_iload_n hx hb dM_settle_218 rfl (lv_at hl 2 rfl) ?_
      refine lv_imul hx hb dM_settle_219 ?_
      refine lv_topi (fun y_ ey_ => ?_)
      obtain rfl : y_ = nI (v * 24) := ey_.trans (k_mulL 24 _ rfl)
      refine lv_iload hx hb dM_settle_220 (lv_at hl 4 rfl) ?_
      refine lv_iadd hx hb dM_settle_222 ?_
      refine lv_topi (fun y_ ey_ => ?_)
      obtain rfl : y_ = nI (v * 24 + k) := ey_.trans (nI_add _ _)
      refine ka_iald (k := v * 24 + k) hx hb hK hP 1 0 rfl rfl (by omega) (by omega) rfl dM_settle_223 ?_
      refine lv_ldc (v := 1000000) hx hb hown (hts _ w_330) dM_settle_224 ?_
      refine lv_icmp_eq (tgt := 262) hx hb dM_settle_226 (by decide) (fun c_226 => ?_) (fun c_226 => ?_)
      · skip
        refine lv_iconst (v := 0) hx hb dM_settle_262 (by decide) ?_
        refine lv_istore (lv' := [(5, .int 0), (0, .ref (md 0)), (1, .int (nI z)), (2, .int (nI v)), (3, .int iz), (4, .int (nI k))]) hx hb dM_settle_263 hl (by decide) rfl (fun ls hl => ?_)
        refine lv_aload_n hx hb dM_settle_265 rfl (lv_at hl 1 rfl) ?_
        refine va_get (D := D) (ci := 5) (v := .ref (md 6)) (C := RM) (T := TM) (N := 24) hx hb hts iM hown hK hP 0 rfl rfl 7 (by decide) (hts _ w_347) (fun _ h9 => h9) rfl dM_settle_266 ?_
        refine lv_iload_n hx hb dM_settle_269 rfl (lv_at hl 2 rfl) ?_
        refine lv_iload hx hb dM_settle_270 (lv_at hl 0 rfl) ?_
        refine lv_if_eq (tgt := 286) hx hb dM_settle_272 (by decide) (fun c_272 => ?_) (fun c_272 => absurd c_272 (by decide))
        refine lv_aload_n hx hb dM_settle_286 rfl (lv_at hl 1 rfl) ?_
        refine va_get (D := D) (ci := 5) (v := .ref (md 6)) (C := RM) (T := TM) (N := 24) hx hb hts iM hown hK hP 0 rfl rfl 7 (by decide) (hts _ w_347) (fun _ h9 => h9) rfl dM_settle_287 ?_
        refine lv_iload_n hx hb dM_settle_290 rfl (lv_at hl 2 rfl) ?_
        refine ka_iald (k := z) hx hb hK hP 6 0 rfl rfl (by omega) (by omega) rfl dM_settle_291 ?_
        refine ka_iast (k := z) hx hb hK hP hD hS 6 0 rfl rfl (by omega) (by omega) rfl dM_settle_292 (fun H locs hP hD hS => ?_)
        have hP : va_P D vwCl [(md 0, .inr (5, [.int th, .int (nI N), .ref (md 1), .ref (md 2), .ref (md 3), .ref (md 4), .ref (md 5), .ref (md 6), .ref (md 7), .ref (md 8), .ref (md 9), .ref (md 10), .ref (md 11), .ref (md 12), .ref (md 13), .ref (md 14), .int (nI K), .ref (md 15), .ref (md 16), .ref (md 17), .int ib, .int ch, .int rs, .ref (md 18)])), (md 1, .inl (τ 0, 576, .inl xc)), (md 2, .inl (τ 0, 3, .inl sr)), (md 3, .inl (τ 0, 72, .inl xd)), (md 4, .inl (τ 0, 72, .inl xh)), (md 5, .inl (τ 0, 72, .inl xp)), (md 6, .inl (τ 0, 3, .inl (upd xt z (xt z)))), (md 8, .inl (τ 0, 72, .inl vd)), (md 9, .inl (τ 0, 72, .inl vh)), (md 10, .inl (τ 0, 72, .inl vp)), (md 11, .inl (τ 0, 600, .inl lst)), (md 12, .inl (τ 0, 24, .inl fl)), (md 13, .inl (τ 0, 24, .inl fh)), (md 14, .inl (τ 0, 24, .inl fp))] H := hP
        have hD : va_D A [(md 0, .inr (5, [.int th, .int (nI N), .ref (md 1), .ref (md 2), .ref (md 3), .ref (md 4), .ref (md 5), .ref (md 6), .ref (md 7), .ref (md 8), .ref (md 9), .ref (md 10), .ref (md 11), .ref (md 12), .ref (md 13), .ref (md 14), .int (nI K), .ref (md 15), .ref (md 16), .ref (md 17), .int ib, .int ch, .int rs, .ref (md 18)])), (md 1, .inl (τ 0, 576, .inl xc)), (md 2, .inl (τ 0, 3, .inl sr)), (md 3, .inl (τ 0, 72, .inl xd)), (md 4, .inl (τ 0, 72, .inl xh)), (md 5, .inl (τ 0, 72, .inl xp)), (md 6, .inl (τ 0, 3, .inl (upd xt z (xt z)))), (md 8, .inl (τ 0, 72, .inl vd)), (md 9, .inl (τ 0, 72, .inl vh)), (md 10, .inl (τ 0, 72, .inl vp)), (md 11, .inl (τ 0, 600, .inl lst)), (md 12, .inl (τ 0, 24, .inl fl)), (md 13, .inl (τ 0, 24, .inl fh)), (md 14, .inl (τ 0, 24, .inl fp))] := hD
        refine lv_iinc (v := nI (k + 1)) (lv' := [(4, .int (nI (k + 1))), (5, .int 0), (0, .ref (md 0)), (1, .int (nI z)), (2, .int (nI v)), (3, .int iz)]) hx hb dM_settle_293 hl (k := 5) rfl (nI_1 _) (by decide) rfl (fun ls hl => ?_)
        refine lv_goto (tgt := 199) hx hb dM_settle_296 (by decide) ?_
        have e_ : (mS4 xc fl z v) k (xt) = (upd xt z (xt z)) := by unfold mS4; exact kIf_f (fun q => q.2.1 c_226)
        (try rw [e_] at ih)
        exact ih H locs ls hP hD hS (lv_sub hl [2, 3, 4, 5, 0] rfl)
      · skip
        refine lv_aload_n hx hb dM_settle_229 rfl (lv_at hl 0 rfl) ?_
        refine va_get (D := D) (ci := 5) (v := .ref (md 12)) (C := RM) (T := TM) (N := 24) hx hb hts iM hown hK hP 0 rfl rfl 13 (by decide) (hts _ w_353) (fun _ h9 => h9) rfl dM_settle_230 ?_
        refine lv_iload_n hx hb dM_settle_233 rfl (lv_at hl 2 rfl) ?_
        refine ka_iald (k := v) hx hb hK hP 11 0 rfl rfl (by omega) (by omega) rfl dM_settle_234 ?_
        refine lv_aload_n hx hb dM_settle_235 rfl (lv_at hl 0 rfl) ?_
        refine va_get (D := D) (ci := 5) (v := .ref (md 1)) (C := RM) (T := TM) (N := 24) hx hb hts iM hown hK hP 0 rfl rfl 2 (by decide) (hts _ w_342) (fun _ h9 => h9) rfl dM_settle_236 ?_
        refine lv_bipush (v := 24) hx hb dM_settle_239 (by decide) ?_
        refine lv_iload_n hx hb dM_settle_241 rfl (lv_at hl 2 rfl) ?_
        refine lv_imul hx hb dM_settle_242 ?_
        refine lv_topi (fun y_ ey_ => ?_)
        obtain rfl : y_ = nI (v * 24) := ey_.trans (k_mulL 24 _ rfl)
        refine lv_iload hx hb dM_settle_243 (lv_at hl 4 rfl) ?_
        refine lv_iadd hx hb dM_settle_245 ?_
        refine lv_topi (fun y_ ey_ => ?_)
        obtain rfl : y_ = nI (v * 24 + k) := ey_.trans (nI_add _ _)
        refine ka_iald (k := v * 24 + k) hx hb hK hP 1 0 rfl rfl (by omega) (by omega) rfl dM_settle_246 ?_
        refine lv_iadd hx hb dM_settle_247 ?_
        refine lv_aload_n hx hb dM_settle_248 rfl (lv_at hl 0 rfl) ?_
        refine va_get (D := D) (ci := 5) (v := .ref (md 12)) (C := RM) (T := TM) (N := 24) hx hb hts iM hown hK hP 0 rfl rfl 13 (by decide) (hts _ w_353) (fun _ h9 => h9) rfl dM_settle_249 ?_
        refine lv_iload hx hb dM_settle_252 (lv_at hl 4 rfl) ?_
        refine ka_iald (k := k) hx hb hK hP 11 0 rfl rfl (by omega) (by omega) rfl dM_settle_254 ?_
        refine lv_icmp_ne (tgt := 262) hx hb dM_settle_255 (by decide) (fun c_255 => ?_) (fun c_255 => ?_)
        · skip
          refine lv_iconst (v := 0) hx hb dM_settle_262 (by decide) ?_
          refine lv_istore (lv' := [(5, .int 0), (0, .ref (md 0)), (1, .int (nI z)), (2, .int (nI v)), (3, .int iz), (4, .int (nI k))]) hx hb dM_settle_263 hl (by decide) rfl (fun ls hl => ?_)
          refine lv_aload_n hx hb dM_settle_265 rfl (lv_at hl 1 rfl) ?_
          refine va_get (D := D) (ci := 5) (v := .ref (md 6)) (C := RM) (T := TM) (N := 24) hx hb hts iM hown hK hP 0 rfl rfl 7 (by decide) (hts _ w_347) (fun _ h9 => h9) rfl dM_settle_266 ?_
          refine lv_iload_n hx hb dM_settle_269 rfl (lv_at hl 2 rfl) ?_
          refine lv_iload hx hb dM_settle_270 (lv_at hl 0 rfl) ?_
          refine lv_if_eq (tgt := 286) hx hb dM_settle_272 (by decide) (fun c_272 => ?_) (fun c_272 => absurd c_272 (by decide))
          refine lv_aload_n hx hb dM_settle_286 rfl (lv_at hl 1 rfl) ?_
          refine va_get (D := D) (ci := 5) (v := .ref (md 6)) (C := RM) (T := TM) (N := 24) hx hb hts iM hown hK hP 0 rfl rfl 7 (by decide) (hts _ w_347) (fun _ h9 => h9) rfl dM_settle_287 ?_
          refine lv_iload_n hx hb dM_settle_290 rfl (lv_at hl 2 rfl) ?_
          refine ka_iald (k := z) hx hb hK hP 6 0 rfl rfl (by omega) (by omega) rfl dM_settle_291 ?_
          refine ka_iast (k := z) hx hb hK hP hD hS 6 0 rfl rfl (by omega) (by omega) rfl dM_settle_292 (fun H locs hP hD hS => ?_)
          have hP : va_P D vwCl [(md 0, .inr (5, [.int th, .int (nI N), .ref (md 1), .ref (md 2), .ref (md 3), .ref (md 4), .ref (md 5), .ref (md 6), .ref (md 7), .ref (md 8), .ref (md 9), .ref (md 10), .ref (md 11), .ref (md 12), .ref (md 13), .ref (md 14), .int (nI K), .ref (md 15), .ref (md 16), .ref (md 17), .int ib, .int ch, .int rs, .ref (md 18)])), (md 1, .inl (τ 0, 576, .inl xc)), (md 2, .inl (τ 0, 3, .inl sr)), (md 3, .inl (τ 0, 72, .inl xd)), (md 4, .inl (τ 0, 72, .inl xh)), (md 5, .inl (τ 0, 72, .inl xp)), (md 6, .inl (τ 0, 3, .inl (upd xt z (xt z)))), (md 8, .inl (τ 0, 72, .inl vd)), (md 9, .inl (τ 0, 72, .inl vh)), (md 10, .inl (τ 0, 72, .inl vp)), (md 11, .inl (τ 0, 600, .inl lst)), (md 12, .inl (τ 0, 24, .inl fl)), (md 13, .inl (τ 0, 24, .inl fh)), (md 14, .inl (τ 0, 24, .inl fp))] H := hP
          have hD : va_D A [(md 0, .inr (5, [.int th, .int (nI N), .ref (md 1), .ref (md 2), .ref (md 3), .ref (md 4), .ref (md 5), .ref (md 6), .ref (md 7), .ref (md 8), .ref (md 9), .ref (md 10), .ref (md 11), .ref (md 12), .ref (md 13), .ref (md 14), .int (nI K), .ref (md 15), .ref (md 16), .ref (md 17), .int ib, .int ch, .int rs, .ref (md 18)])), (md 1, .inl (τ 0, 576, .inl xc)), (md 2, .inl (τ 0, 3, .inl sr)), (md 3, .inl (τ 0, 72, .inl xd)), (md 4, .inl (τ 0, 72, .inl xh)), (md 5, .inl (τ 0, 72, .inl xp)), (md 6, .inl (τ 0, 3, .inl (upd xt z (xt z)))), (md 8, .inl (τ 0, 72, .inl vd)), (md 9, .inl (τ 0, 72, .inl vh)), (md 10, .inl (τ 0, 72, .inl vp)), (md 11, .inl (τ 0, 600, .inl lst)), (md 12, .inl (τ 0, 24, .inl fl)), (md 13, .inl (τ 0, 24, .inl fh)), (md 14, .inl (τ 0, 24, .inl fp))] := hD
          refine lv_iinc (v := nI (k + 1)) (lv' := [(4, .int (nI (k + 1))), (5, .int 0), (0, .ref (md 0)), (1, .int (nI z)), (2, .int (nI v)), (3, .int iz)]) hx hb dM_settle_293 hl (k := 5) rfl (nI_1 _) (by decide) rfl (fun ls hl => ?_)
          refine lv_goto (tgt := 199) hx hb dM_settle_296 (by decide) ?_
          have e_ : (mS4 xc fl z v) k (xt) = (upd xt z (xt z)) := by unfold mS4; exact kIf_f (fun q => c_255 q.2.2)
          (try rw [e_] at ih)
          exact ih H locs ls hP hD hS (lv_sub hl [2, 3, 4, 5, 0] rfl)
        · skip
          refine lv_iconst (v := 1) hx hb dM_settle_258 (by decide) ?_
          refine lv_goto (tgt := 263) hx hb dM_settle_259 (by decide) ?_
          refine lv_istore (lv' := [(5, .int 1), (0, .ref (md 0)), (1, .int (nI z)), (2, .int (nI v)), (3, .int iz), (4, .int (nI k))]) hx hb dM_settle_263 hl (by decide) rfl (fun ls hl => ?_)
          refine lv_aload_n hx hb dM_settle_265 rfl (lv_at hl 1 rfl) ?_
          refine va_get (D := D) (ci := 5) (v := .ref (md 6)) (C := RM) (T := TM) (N := 24) hx hb hts iM hown hK hP 0 rfl rfl 7 (by decide) (hts _ w_347) (fun _ h9 => h9) rfl dM_settle_266 ?_
          refine lv_iload_n hx hb dM_settle_269 rfl (lv_at hl 2 rfl) ?_
          refine lv_iload hx hb dM_settle_270 (lv_at hl 0 rfl) ?_
          refine lv_if_eq (tgt := 286) hx hb dM_settle_272 (by decide) (fun c_272 => absurd c_272 (by decide)) (fun c_272 => ?_)
          refine lv_aload_n hx hb dM_settle_275 rfl (lv_at hl 1 rfl) ?_
          refine va_get (D := D) (ci := 5) (v := .ref (md 6)) (C := RM) (T := TM) (N := 24) hx hb hts iM hown hK hP 0 rfl rfl 7 (by decide) (hts _ w_347) (fun _ h9 => h9) rfl dM_settle_276 ?_
          refine lv_iload_n hx hb dM_settle_279 rfl (lv_at hl 2 rfl) ?_
          refine ka_iald (k := z) hx hb hK hP 6 0 rfl rfl (by omega) (by omega) rfl dM_settle_280 ?_
          refine lv_iconst (v := 1) hx hb dM_settle_281 (by decide) ?_
          refine lv_iadd hx hb dM_settle_282 ?_
          refine lv_goto (tgt := 292) hx hb dM_settle_283 (by decide) ?_
          refine ka_iast (k := z) hx hb hK hP hD hS 6 0 rfl rfl (by omega) (by omega) rfl dM_settle_292 (fun H locs hP hD hS => ?_)
          have hP : va_P D vwCl [(md 0, .inr (5, [.int th, .int (nI N), .ref (md 1), .ref (md 2), .ref (md 3), .ref (md 4), .ref (md 5), .ref (md 6), .ref (md 7), .ref (md 8), .ref (md 9), .ref (md 10), .ref (md 11), .ref (md 12), .ref (md 13), .ref (md 14), .int (nI K), .ref (md 15), .ref (md 16), .ref (md 17), .int ib, .int ch, .int rs, .ref (md 18)])), (md 1, .inl (τ 0, 576, .inl xc)), (md 2, .inl (τ 0, 3, .inl sr)), (md 3, .inl (τ 0, 72, .inl xd)), (md 4, .inl (τ 0, 72, .inl xh)), (md 5, .inl (τ 0, 72, .inl xp)), (md 6, .inl (τ 0, 3, .inl (upd xt z ((xt z) + 1)))), (md 8, .inl (τ 0, 72, .inl vd)), (md 9, .inl (τ 0, 72, .inl vh)), (md 10, .inl (τ 0, 72, .inl vp)), (md 11, .inl (τ 0, 600, .inl lst)), (md 12, .inl (τ 0, 24, .inl fl)), (md 13, .inl (τ 0, 24, .inl fh)), (md 14, .inl (τ 0, 24, .inl fp))] H := hP
          have hD : va_D A [(md 0, .inr (5, [.int th, .int (nI N), .ref (md 1), .ref (md 2), .ref (md 3), .ref (md 4), .ref (md 5), .ref (md 6), .ref (md 7), .ref (md 8), .ref (md 9), .ref (md 10), .ref (md 11), .ref (md 12), .ref (md 13), .ref (md 14), .int (nI K), .ref (md 15), .ref (md 16), .ref (md 17), .int ib, .int ch, .int rs, .ref (md 18)])), (md 1, .inl (τ 0, 576, .inl xc)), (md 2, .inl (τ 0, 3, .inl sr)), (md 3, .inl (τ 0, 72, .inl xd)), (md 4, .inl (τ 0, 72, .inl xh)), (md 5, .inl (τ 0, 72, .inl xp)), (md 6, .inl (τ 0, 3, .inl (upd xt z ((xt z) + 1)))), (md 8, .inl (τ 0, 72, .inl vd)), (md 9, .inl (τ 0, 72, .inl vh)), (md 10, .inl (τ 0, 72, .inl vp)), (md 11, .inl (τ 0, 600, .inl lst)), (md 12, .inl (τ 0, 24, .inl fl)), (md 13, .inl (τ 0, 24, .inl fh)), (md 14, .inl (τ 0, 24, .inl fp))] := hD
          refine lv_iinc (v := nI (k + 1)) (lv' := [(4, .int (nI (k + 1))), (5, .int 1), (0, .ref (md 0)), (1, .int (nI z)), (2, .int (nI v)), (3, .int iz)]) hx hb dM_settle_293 hl (k := 5) rfl (nI_1 _) (by decide) rfl (fun ls hl => ?_)
          refine lv_goto (tgt := 199) hx hb dM_settle_296 (by decide) ?_
          have e_ : (mS4 xc fl z v) k (xt) = (upd xt z ((xt z) + 1)) := by unfold mS4; exact kIf_t ⟨fun q => c_209 (hiz.mpr q), c_226, c_255⟩
          (try rw [e_] at ih)
          exact ih H locs ls hP hD hS (lv_sub hl [2, 3, 4, 5, 0] rfl)
set_option maxHeartbeats 4000000 in
set_option maxRecDepth 100000 in
theorem lm_s3 {p : Program} {l : Launch} {e : Env} {s : State} {m : MethodId} {args : Array Value} {below : List Frame} {meth : Method} {c : Code} {Q : State → Prop} {D : va_G} {τ : Nat → ClassId} {A : Nat → Prop} (hx : p.tables.exec = Jvm.exec) (hb : c.code = cM_settle) (hml : c.maxLocals = 6) (hown : s.vm.findClass RM = some m.cls) (hts : ∀ w ∈ kTbl, w.before args s = true) (hK : va_K D vwCl (kTys τ) s) (hA : ∀ q : Nat, s.heap.size ≤ q → A q) (md : Nat → Nat) (th : Int32) (N : Nat) (K : Nat) (ib : Int32) (ch : Int32) (rs : Int32) (xc : Nat → Int32) (sr : Nat → Int32) (vd : Nat → Int32) (vh : Nat → Int32) (vp : Nat → Int32) (lst : Nat → Int32) (fl : Nat → Int32) (fh : Nat → Int32) (fp : Nat → Int32) (z : Nat) (g1 : Nat → Int32) (g2 : Nat → Int32) (g3 : Nat → Int32) (g4 : Nat → Int32) (hN : N ≤ 24) (hz : z < 3)
    (kx : ∀ (H : Heap) (locs : List Loc) (ls : Array Slot), va_P D vwCl [(md 0, .inr (5, [.int th, .int (nI N), .ref (md 1), .ref (md 2), .ref (md 3), .ref (md 4), .ref (md 5), .ref (md 6), .ref (md 7), .ref (md 8), .ref (md 9), .ref (md 10), .ref (md 11), .ref (md 12), .ref (md 13), .ref (md 14), .int (nI K), .ref (md 15), .ref (md 16), .ref (md 17), .int ib, .int ch, .int rs, .ref (md 18)])), (md 1, .inl (τ 0, 576, .inl xc)), (md 2, .inl (τ 0, 3, .inl sr)), (md 3, .inl (τ 0, 72, .inl ((kItr (mS3 N xc fl fh fp z) N (g1, g2, g3, g4)).1))), (md 4, .inl (τ 0, 72, .inl ((kItr (mS3 N xc fl fh fp z) N (g1, g2, g3, g4)).2.1))), (md 5, .inl (τ 0, 72, .inl ((kItr (mS3 N xc fl fh fp z) N (g1, g2, g3, g4)).2.2.1))), (md 6, .inl (τ 0, 3, .inl ((kItr (mS3 N xc fl fh fp z) N (g1, g2, g3, g4)).2.2.2))), (md 8, .inl (τ 0, 72, .inl vd)), (md 9, .inl (τ 0, 72, .inl vh)), (md 10, .inl (τ 0, 72, .inl vp)), (md 11, .inl (τ 0, 600, .inl lst)), (md 12, .inl (τ 0, 24, .inl fl)), (md 13, .inl (τ 0, 24, .inl fh)), (md 14, .inl (τ 0, 24, .inl fp))] H → va_D A [(md 0, .inr (5, [.int th, .int (nI N), .ref (md 1), .ref (md 2), .ref (md 3), .ref (md 4), .ref (md 5), .ref (md 6), .ref (md 7), .ref (md 8), .ref (md 9), .ref (md 10), .ref (md 11), .ref (md 12), .ref (md 13), .ref (md 14), .int (nI K), .ref (md 15), .ref (md 16), .ref (md 17), .int ib, .int ch, .int rs, .ref (md 18)])), (md 1, .inl (τ 0, 576, .inl xc)), (md 2, .inl (τ 0, 3, .inl sr)), (md 3, .inl (τ 0, 72, .inl ((kItr (mS3 N xc fl fh fp z) N (g1, g2, g3, g4)).1))), (md 4, .inl (τ 0, 72, .inl ((kItr (mS3 N xc fl fh fp z) N (g1, g2, g3, g4)).2.1))), (md 5, .inl (τ 0, 72, .inl ((kItr (mS3 N xc fl fh fp z) N (g1, g2, g3, g4)).2.2.1))), (md 6, .inl (τ 0, 3, .inl ((kItr (mS3 N xc fl fh fp z) N (g1, g2, g3, g4)).2.2.2))), (md 8, .inl (τ 0, 72, .inl vd)), (md 9, .inl (τ 0, 72, .inl vh)), (md 10, .inl (τ 0, 72, .inl vp)), (md 11, .inl (τ 0, 600, .inl lst)), (md 12, .inl (τ 0, 24, .inl fl)), (md 13, .inl (τ 0, 24, .inl fh)), (md 14, .inl (τ 0, 24, .inl fp))] → va_S A s.heap H locs → lv_has ls 6 [(0, .ref (md 0)), (1, .int (nI z))] → W p l e (headSpec (kWs yM_settle cM_settle 6 none) { frames := 1, cells := 0, slots := 0, locals := 29 }).room s m args below meth c H locs 0 0 Q (F0 m 305 ls [])) :
    ∀ (n k : Nat), k + n = N → ∀ (H : Heap) (locs : List Loc) (ls : Array Slot), va_P D vwCl [(md 0, .inr (5, [.int th, .int (nI N), .ref (md 1), .ref (md 2), .ref (md 3), .ref (md 4), .ref (md 5), .ref (md 6), .ref (md 7), .ref (md 8), .ref (md 9), .ref (md 10), .ref (md 11), .ref (md 12), .ref (md 13), .ref (md 14), .int (nI K), .ref (md 15), .ref (md 16), .ref (md 17), .int ib, .int ch, .int rs, .ref (md 18)])), (md 1, .inl (τ 0, 576, .inl xc)), (md 2, .inl (τ 0, 3, .inl sr)), (md 3, .inl (τ 0, 72, .inl ((kItr (mS3 N xc fl fh fp z) k (g1, g2, g3, g4)).1))), (md 4, .inl (τ 0, 72, .inl ((kItr (mS3 N xc fl fh fp z) k (g1, g2, g3, g4)).2.1))), (md 5, .inl (τ 0, 72, .inl ((kItr (mS3 N xc fl fh fp z) k (g1, g2, g3, g4)).2.2.1))), (md 6, .inl (τ 0, 3, .inl ((kItr (mS3 N xc fl fh fp z) k (g1, g2, g3, g4)).2.2.2))), (md 8, .inl (τ 0, 72, .inl vd)), (md 9, .inl (τ 0, 72, .inl vh)), (md 10, .inl (τ 0, 72, .inl vp)), (md 11, .inl (τ 0, 600, .inl lst)), (md 12, .inl (τ 0, 24, .inl fl)), (md 13, .inl (τ 0, 24, .inl fh)), (md 14, .inl (τ 0, 24, .inl fp))] H → va_D A [(md 0, .inr (5, [.int th, .int (nI N), .ref (md 1), .ref (md 2), .ref (md 3), .ref (md 4), .ref (md 5), .ref (md 6), .ref (md 7), .ref (md 8), .ref (md 9), .ref (md 10), .ref (md 11), .ref (md 12), .ref (md 13), .ref (md 14), .int (nI K), .ref (md 15), .ref (md 16), .ref (md 17), .int ib, .int ch, .int rs, .ref (md 18)])), (md 1, .inl (τ 0, 576, .inl xc)), (md 2, .inl (τ 0, 3, .inl sr)), (md 3, .inl (τ 0, 72, .inl ((kItr (mS3 N xc fl fh fp z) k (g1, g2, g3, g4)).1))), (md 4, .inl (τ 0, 72, .inl ((kItr (mS3 N xc fl fh fp z) k (g1, g2, g3, g4)).2.1))), (md 5, .inl (τ 0, 72, .inl ((kItr (mS3 N xc fl fh fp z) k (g1, g2, g3, g4)).2.2.1))), (md 6, .inl (τ 0, 3, .inl ((kItr (mS3 N xc fl fh fp z) k (g1, g2, g3, g4)).2.2.2))), (md 8, .inl (τ 0, 72, .inl vd)), (md 9, .inl (τ 0, 72, .inl vh)), (md 10, .inl (τ 0, 72, .inl vp)), (md 11, .inl (τ 0, 600, .inl lst)), (md 12, .inl (τ 0, 24, .inl fl)), (md 13, .inl (τ 0, 24, .inl fh)), (md 14, .inl (τ 0, 24, .inl fp))] → va_S A s.heap H locs → lv_has ls 6 [(0, .ref (md 0)), (1, .int (nI z)), (2, .int (nI k))] → W p l e (headSpec (kWs yM_settle cM_settle 6 none) { frames := 1, cells := 0, slots := 0, locals := 29 }).room s m args below meth c H locs 0 0 Q (F0 m 111 ls []) := by
  intro n
  induction n with
  | zero =>
    intro k hk H locs ls hP hD hS hl
    have hkN : N = k := by omega
    subst hkN
    revert hP hD hl
    generalize hst : (kItr (mS3 N xc fl fh fp z) N (g1, g2, g3, g4)) = st
    intro hP hD hl
    obtain ⟨xd, xh, xp, xt⟩ := st
    have hP : va_P D vwCl [(md 0, .inr (5, [.int th, .int (nI N), .ref (md 1), .ref (md 2), .ref (md 3), .ref (md 4), .ref (md 5), .ref (md 6), .ref (md 7), .ref (md 8), .ref (md 9), .ref (md 10), .ref (md 11), .ref (md 12), .ref (md 13), .ref (md 14), .int (nI K), .ref (md 15), .ref (md 16), .ref (md 17), .int ib, .int ch, .int rs, .ref (md 18)])), (md 1, .inl (τ 0, 576, .inl xc)), (md 2, .inl (τ 0, 3, .inl sr)), (md 3, .inl (τ 0, 72, .inl xd)), (md 4, .inl (τ 0, 72, .inl xh)), (md 5, .inl (τ 0, 72, .inl xp)), (md 6, .inl (τ 0, 3, .inl xt)), (md 8, .inl (τ 0, 72, .inl vd)), (md 9, .inl (τ 0, 72, .inl vh)), (md 10, .inl (τ 0, 72, .inl vp)), (md 11, .inl (τ 0, 600, .inl lst)), (md 12, .inl (τ 0, 24, .inl fl)), (md 13, .inl (τ 0, 24, .inl fh)), (md 14, .inl (τ 0, 24, .inl fp))] H := hP
    have hD : va_D A [(md 0, .inr (5, [.int th, .int (nI N), .ref (md 1), .ref (md 2), .ref (md 3), .ref (md 4), .ref (md 5), .ref (md 6), .ref (md 7), .ref (md 8), .ref (md 9), .ref (md 10), .ref (md 11), .ref (md 12), .ref (md 13), .ref (md 14), .int (nI K), .ref (md 15), .ref (md 16), .ref (md 17), .int ib, .int ch, .int rs, .ref (md 18)])), (md 1, .inl (τ 0, 576, .inl xc)), (md 2, .inl (τ 0, 3, .inl sr)), (md 3, .inl (τ 0, 72, .inl xd)), (md 4, .inl (τ 0, 72, .inl xh)), (md 5, .inl (τ 0, 72, .inl xp)), (md 6, .inl (τ 0, 3, .inl xt)), (md 8, .inl (τ 0, 72, .inl vd)), (md 9, .inl (τ 0, 72, .inl vh)), (md 10, .inl (τ 0, 72, .inl vp)), (md 11, .inl (τ 0, 600, .inl lst)), (md 12, .inl (τ 0, 24, .inl fl)), (md 13, .inl (τ 0, 24, .inl fh)), (md 14, .inl (τ 0, 24, .inl fp))] := hD
    have hl : lv_has ls 6 [(0, .ref (md 0)), (1, .int (nI z)), (2, .int (nI N))] := hl
    refine lv_iload_n hx hb dM_settle_111 rfl (lv_at hl 2 rfl) ?_
    refine lv_aload_n hx hb dM_settle_112 rfl (lv_at hl 0 rfl) ?_
    refine va_get (D := D) (ci := 5) (v := .int (nI N)) (C := RM) (T := TM) (N := 24) hx hb hts iM hown hK hP 0 rfl rfl 1 (by decide) (hts _ w_341) (fun _ h9 => h9) rfl dM_settle_113 ?_
    refine lv_icmp_ge (tgt := 305) hx hb dM_settle_116 (by decide) (fun c_116 => ?_) (fun c_116 => absurd (nI_le (Nat.le_refl _) (by omega)) c_116)
    exact kx H locs ls (by (try rw [hst]); exact hP) (by (try rw [hst]); exact hD) hS (by (try rw [hst]); exact lv_sub hl [0, 1] rfl)
  | succ n ih =>
    intro k hk H locs ls hP hD hS hl
    have hkN : k < N := by omega
    have ih := ih (k + 1) (by omega)
    rw [kItr_s] at ih
    revert hP hD hl ih
    generalize hst : (kItr (mS3 N xc fl fh fp z) k (g1, g2, g3, g4)) = st
    intro hP hD hl ih
    obtain ⟨xd, xh, xp, xt⟩ := st
    have hP : va_P D vwCl [(md 0, .inr (5, [.int th, .int (nI N), .ref (md 1), .ref (md 2), .ref (md 3), .ref (md 4), .ref (md 5), .ref (md 6), .ref (md 7), .ref (md 8), .ref (md 9), .ref (md 10), .ref (md 11), .ref (md 12), .ref (md 13), .ref (md 14), .int (nI K), .ref (md 15), .ref (md 16), .ref (md 17), .int ib, .int ch, .int rs, .ref (md 18)])), (md 1, .inl (τ 0, 576, .inl xc)), (md 2, .inl (τ 0, 3, .inl sr)), (md 3, .inl (τ 0, 72, .inl xd)), (md 4, .inl (τ 0, 72, .inl xh)), (md 5, .inl (τ 0, 72, .inl xp)), (md 6, .inl (τ 0, 3, .inl xt)), (md 8, .inl (τ 0, 72, .inl vd)), (md 9, .inl (τ 0, 72, .inl vh)), (md 10, .inl (τ 0, 72, .inl vp)), (md 11, .inl (τ 0, 600, .inl lst)), (md 12, .inl (τ 0, 24, .inl fl)), (md 13, .inl (τ 0, 24, .inl fh)), (md 14, .inl (τ 0, 24, .inl fp))] H := hP
    have hD : va_D A [(md 0, .inr (5, [.int th, .int (nI N), .ref (md 1), .ref (md 2), .ref (md 3), .ref (md 4), .ref (md 5), .ref (md 6), .ref (md 7), .ref (md 8), .ref (md 9), .ref (md 10), .ref (md 11), .ref (md 12), .ref (md 13), .ref (md 14), .int (nI K), .ref (md 15), .ref (md 16), .ref (md 17), .int ib, .int ch, .int rs, .ref (md 18)])), (md 1, .inl (τ 0, 576, .inl xc)), (md 2, .inl (τ 0, 3, .inl sr)), (md 3, .inl (τ 0, 72, .inl xd)), (md 4, .inl (τ 0, 72, .inl xh)), (md 5, .inl (τ 0, 72, .inl xp)), (md 6, .inl (τ 0, 3, .inl xt)), (md 8, .inl (τ 0, 72, .inl vd)), (md 9, .inl (τ 0, 72, .inl vh)), (md 10, .inl (τ 0, 72, .inl vp)), (md 11, .inl (τ 0, 600, .inl lst)), (md 12, .inl (τ 0, 24, .inl fl)), (md 13, .inl (τ 0, 24, .inl fh)), (md 14, .inl (τ 0, 24, .inl fp))] := hD
    have hl : lv_has ls 6 [(0, .ref (md 0)), (1, .int (nI z)), (2, .int (nI k))] := hl
    refine lv_iload_n hx hb dM_settle_111 rfl (lv_at hl 2 rfl) ?_
    refine lv_aload_n hx hb dM_settle_112 rfl (lv_at hl 0 rfl) ?_
    refine va_get (D := D) (ci := 5) (v := .int (nI N)) (C := RM) (T := TM) (N := 24) hx hb hts iM hown hK hP 0 rfl rfl 1 (by decide) (hts _ w_341) (fun _ h9 => h9) rfl dM_settle_113 ?_
    refine lv_icmp_ge (tgt := 305) hx hb dM_settle_116 (by decide) (fun c_116 => absurd c_116 (nI_ge hkN (by omega))) (fun c_116 => ?_)
    refine lv_aload_n hx hb dM_settle_119 rfl (lv_at hl 0 rfl) ?_
    refine va_get (D := D) (ci := 5) (v := .ref (md 12)) (C := RM) (T := TM) (N := 24) hx hb hts iM hown hK hP 0 rfl rfl 13 (by decide) (hts _ w_353) (fun _ h9 => h9) rfl dM_settle_120 ?_
    refine lv_iload_n hx hb dM_settle_123 rfl (lv_at hl 2 rfl) ?_
    refine ka_iald (k := k) hx hb hK hP 11 0 rfl rfl (by omega) (by omega) rfl dM_settle_124 ?_
    refine lv_ldc (v := 1000000) hx hb hown (hts _ w_330) dM_settle_125 ?_
    refine lv_icmp_eq (tgt := 134) hx hb dM_settle_127 (by decide) (fun c_127 => ?_) (fun c_127 => ?_)
    · skip
      refine lv_iconst (v := 0) hx hb dM_settle_134 (by decide) ?_
      refine lv_istore_n (lv' := [(3, .int 0), (0, .ref (md 0)), (1, .int (nI z)), (2, .int (nI k))]) hx hb dM_settle_135 rfl hl (by decide) rfl (fun ls hl => ?_)
      refine lv_aload_n hx hb dM_settle_136 rfl (lv_at hl 1 rfl) ?_
      refine va_get (D := D) (ci := 5) (v := .ref (md 3)) (C := RM) (T := TM) (N := 24) hx hb hts iM hown hK hP 0 rfl rfl 4 (by decide) (hts _ w_344) (fun _ h9 => h9) rfl dM_settle_137 ?_
      refine lv_bipush (v := 24) hx hb dM_settle_140 (by decide) ?_
      refine lv_iload_n hx hb dM_settle_142 rfl (lv_at hl 2 rfl) ?_
      refine lv_imul hx hb dM_settle_143 ?_
      refine lv_topi (fun y_ ey_ => ?_)
      obtain rfl : y_ = nI (z * 24) := ey_.trans (k_mulL 24 _ rfl)
      refine lv_iload_n hx hb dM_settle_144 rfl (lv_at hl 3 rfl) ?_
      refine lv_iadd hx hb dM_settle_145 ?_
      refine lv_topi (fun y_ ey_ => ?_)
      obtain rfl : y_ = nI (z * 24 + k) := ey_.trans (nI_add _ _)
      refine lv_iload_n hx hb dM_settle_146 rfl (lv_at hl 0 rfl) ?_
      refine lv_if_eq (tgt := 159) hx hb dM_settle_147 (by decide) (fun c_147 => ?_) (fun c_147 => absurd c_147 (by decide))
      refine lv_ldc (v := (-1000000)) hx hb hown (hts _ w_335) dM_settle_159 ?_
      refine ka_iast (k := z * 24 + k) hx hb hK hP hD hS 3 0 rfl rfl (by omega) (by omega) rfl dM_settle_161 (fun H locs hP hD hS => ?_)
      have hP : va_P D vwCl [(md 0, .inr (5, [.int th, .int (nI N), .ref (md 1), .ref (md 2), .ref (md 3), .ref (md 4), .ref (md 5), .ref (md 6), .ref (md 7), .ref (md 8), .ref (md 9), .ref (md 10), .ref (md 11), .ref (md 12), .ref (md 13), .ref (md 14), .int (nI K), .ref (md 15), .ref (md 16), .ref (md 17), .int ib, .int ch, .int rs, .ref (md 18)])), (md 1, .inl (τ 0, 576, .inl xc)), (md 2, .inl (τ 0, 3, .inl sr)), (md 3, .inl (τ 0, 72, .inl (upd xd (z * 24 + k) (-1000000)))), (md 4, .inl (τ 0, 72, .inl xh)), (md 5, .inl (τ 0, 72, .inl xp)), (md 6, .inl (τ 0, 3, .inl xt)), (md 8, .inl (τ 0, 72, .inl vd)), (md 9, .inl (τ 0, 72, .inl vh)), (md 10, .inl (τ 0, 72, .inl vp)), (md 11, .inl (τ 0, 600, .inl lst)), (md 12, .inl (τ 0, 24, .inl fl)), (md 13, .inl (τ 0, 24, .inl fh)), (md 14, .inl (τ 0, 24, .inl fp))] H := hP
      have hD : va_D A [(md 0, .inr (5, [.int th, .int (nI N), .ref (md 1), .ref (md 2), .ref (md 3), .ref (md 4), .ref (md 5), .ref (md 6), .ref (md 7), .ref (md 8), .ref (md 9), .ref (md 10), .ref (md 11), .ref (md 12), .ref (md 13), .ref (md 14), .int (nI K), .ref (md 15), .ref (md 16), .ref (md 17), .int ib, .int ch, .int rs, .ref (md 18)])), (md 1, .inl (τ 0, 576, .inl xc)), (md 2, .inl (τ 0, 3, .inl sr)), (md 3, .inl (τ 0, 72, .inl (upd xd (z * 24 + k) (-1000000)))), (md 4, .inl (τ 0, 72, .inl xh)), (md 5, .inl (τ 0, 72, .inl xp)), (md 6, .inl (τ 0, 3, .inl xt)), (md 8, .inl (τ 0, 72, .inl vd)), (md 9, .inl (τ 0, 72, .inl vh)), (md 10, .inl (τ 0, 72, .inl vp)), (md 11, .inl (τ 0, 600, .inl lst)), (md 12, .inl (τ 0, 24, .inl fl)), (md 13, .inl (τ 0, 24, .inl fh)), (md 14, .inl (τ 0, 24, .inl fp))] := hD
      refine lv_aload_n hx hb dM_settle_162 rfl (lv_at hl 1 rfl) ?_
      refine va_get (D := D) (ci := 5) (v := .ref (md 4)) (C := RM) (T := TM) (N := 24) hx hb hts iM hown hK hP 0 rfl rfl 5 (by decide) (hts _ w_345) (fun _ h9 => h9) rfl dM_settle_163 ?_
      refine lv_bipush (v := 24) hx hb dM_settle_166 (by decide) ?_
      refine lv_iload_n hx hb dM_settle_168 rfl (lv_at hl 2 rfl) ?_
      refine lv_imul hx hb dM_settle_169 ?_
      refine lv_topi (fun y_ ey_ => ?_)
      obtain rfl : y_ = nI (z * 24) := ey_.trans (k_mulL 24 _ rfl)
      refine lv_iload_n hx hb dM_settle_170 rfl (lv_at hl 3 rfl) ?_
      refine lv_iadd hx hb dM_settle_171 ?_
      refine lv_topi (fun y_ ey_ => ?_)
      obtain rfl : y_ = nI (z * 24 + k) := ey_.trans (nI_add _ _)
      refine lv_aload_n hx hb dM_settle_172 rfl (lv_at hl 1 rfl) ?_
      refine va_get (D := D) (ci := 5) (v := .ref (md 13)) (C := RM) (T := TM) (N := 24) hx hb hts iM hown hK hP 0 rfl rfl 14 (by decide) (hts _ w_354) (fun _ h9 => h9) rfl dM_settle_173 ?_
      refine lv_iload_n hx hb dM_settle_176 rfl (lv_at hl 3 rfl) ?_
      refine ka_iald (k := k) hx hb hK hP 12 0 rfl rfl (by omega) (by omega) rfl dM_settle_177 ?_
      refine ka_iast (k := z * 24 + k) hx hb hK hP hD hS 4 0 rfl rfl (by omega) (by omega) rfl dM_settle_178 (fun H locs hP hD hS => ?_)
      have hP : va_P D vwCl [(md 0, .inr (5, [.int th, .int (nI N), .ref (md 1), .ref (md 2), .ref (md 3), .ref (md 4), .ref (md 5), .ref (md 6), .ref (md 7), .ref (md 8), .ref (md 9), .ref (md 10), .ref (md 11), .ref (md 12), .ref (md 13), .ref (md 14), .int (nI K), .ref (md 15), .ref (md 16), .ref (md 17), .int ib, .int ch, .int rs, .ref (md 18)])), (md 1, .inl (τ 0, 576, .inl xc)), (md 2, .inl (τ 0, 3, .inl sr)), (md 3, .inl (τ 0, 72, .inl (upd xd (z * 24 + k) (-1000000)))), (md 4, .inl (τ 0, 72, .inl (upd xh (z * 24 + k) (fh k)))), (md 5, .inl (τ 0, 72, .inl xp)), (md 6, .inl (τ 0, 3, .inl xt)), (md 8, .inl (τ 0, 72, .inl vd)), (md 9, .inl (τ 0, 72, .inl vh)), (md 10, .inl (τ 0, 72, .inl vp)), (md 11, .inl (τ 0, 600, .inl lst)), (md 12, .inl (τ 0, 24, .inl fl)), (md 13, .inl (τ 0, 24, .inl fh)), (md 14, .inl (τ 0, 24, .inl fp))] H := hP
      have hD : va_D A [(md 0, .inr (5, [.int th, .int (nI N), .ref (md 1), .ref (md 2), .ref (md 3), .ref (md 4), .ref (md 5), .ref (md 6), .ref (md 7), .ref (md 8), .ref (md 9), .ref (md 10), .ref (md 11), .ref (md 12), .ref (md 13), .ref (md 14), .int (nI K), .ref (md 15), .ref (md 16), .ref (md 17), .int ib, .int ch, .int rs, .ref (md 18)])), (md 1, .inl (τ 0, 576, .inl xc)), (md 2, .inl (τ 0, 3, .inl sr)), (md 3, .inl (τ 0, 72, .inl (upd xd (z * 24 + k) (-1000000)))), (md 4, .inl (τ 0, 72, .inl (upd xh (z * 24 + k) (fh k)))), (md 5, .inl (τ 0, 72, .inl xp)), (md 6, .inl (τ 0, 3, .inl xt)), (md 8, .inl (τ 0, 72, .inl vd)), (md 9, .inl (τ 0, 72, .inl vh)), (md 10, .inl (τ 0, 72, .inl vp)), (md 11, .inl (τ 0, 600, .inl lst)), (md 12, .inl (τ 0, 24, .inl fl)), (md 13, .inl (τ 0, 24, .inl fh)), (md 14, .inl (τ 0, 24, .inl fp))] := hD
      refine lv_aload_n hx hb dM_settle_179 rfl (lv_at hl 1 rfl) ?_
      refine va_get (D := D) (ci := 5) (v := .ref (md 5)) (C := RM) (T := TM) (N := 24) hx hb hts iM hown hK hP 0 rfl rfl 6 (by decide) (hts _ w_346) (fun _ h9 => h9) rfl dM_settle_180 ?_
      refine lv_bipush (v := 24) hx hb dM_settle_183 (by decide) ?_
      refine lv_iload_n hx hb dM_settle_185 rfl (lv_at hl 2 rfl) ?_
      refine lv_imul hx hb dM_settle_186 ?_
      refine lv_topi (fun y_ ey_ => ?_)
      obtain rfl : y_ = nI (z * 24) := ey_.trans (k_mulL 24 _ rfl)
      refine lv_iload_n hx hb dM_settle_187 rfl (lv_at hl 3 rfl) ?_
      refine lv_iadd hx hb dM_settle_188 ?_
      refine lv_topi (fun y_ ey_ => ?_)
      obtain rfl : y_ = nI (z * 24 + k) := ey_.trans (nI_add _ _)
      refine lv_aload_n hx hb dM_settle_189 rfl (lv_at hl 1 rfl) ?_
      refine va_get (D := D) (ci := 5) (v := .ref (md 14)) (C := RM) (T := TM) (N := 24) hx hb hts iM hown hK hP 0 rfl rfl 15 (by decide) (hts _ w_355) (fun _ h9 => h9) rfl dM_settle_190 ?_
      refine lv_iload_n hx hb dM_settle_193 rfl (lv_at hl 3 rfl) ?_
      refine ka_iald (k := k) hx hb hK hP 13 0 rfl rfl (by omega) (by omega) rfl dM_settle_194 ?_
      refine ka_iast (k := z * 24 + k) hx hb hK hP hD hS 5 0 rfl rfl (by omega) (by omega) rfl dM_settle_195 (fun H locs hP hD hS => ?_)
      have hP : va_P D vwCl [(md 0, .inr (5, [.int th, .int (nI N), .ref (md 1), .ref (md 2), .ref (md 3), .ref (md 4), .ref (md 5), .ref (md 6), .ref (md 7), .ref (md 8), .ref (md 9), .ref (md 10), .ref (md 11), .ref (md 12), .ref (md 13), .ref (md 14), .int (nI K), .ref (md 15), .ref (md 16), .ref (md 17), .int ib, .int ch, .int rs, .ref (md 18)])), (md 1, .inl (τ 0, 576, .inl xc)), (md 2, .inl (τ 0, 3, .inl sr)), (md 3, .inl (τ 0, 72, .inl (upd xd (z * 24 + k) (-1000000)))), (md 4, .inl (τ 0, 72, .inl (upd xh (z * 24 + k) (fh k)))), (md 5, .inl (τ 0, 72, .inl (upd xp (z * 24 + k) (fp k)))), (md 6, .inl (τ 0, 3, .inl xt)), (md 8, .inl (τ 0, 72, .inl vd)), (md 9, .inl (τ 0, 72, .inl vh)), (md 10, .inl (τ 0, 72, .inl vp)), (md 11, .inl (τ 0, 600, .inl lst)), (md 12, .inl (τ 0, 24, .inl fl)), (md 13, .inl (τ 0, 24, .inl fh)), (md 14, .inl (τ 0, 24, .inl fp))] H := hP
      have hD : va_D A [(md 0, .inr (5, [.int th, .int (nI N), .ref (md 1), .ref (md 2), .ref (md 3), .ref (md 4), .ref (md 5), .ref (md 6), .ref (md 7), .ref (md 8), .ref (md 9), .ref (md 10), .ref (md 11), .ref (md 12), .ref (md 13), .ref (md 14), .int (nI K), .ref (md 15), .ref (md 16), .ref (md 17), .int ib, .int ch, .int rs, .ref (md 18)])), (md 1, .inl (τ 0, 576, .inl xc)), (md 2, .inl (τ 0, 3, .inl sr)), (md 3, .inl (τ 0, 72, .inl (upd xd (z * 24 + k) (-1000000)))), (md 4, .inl (τ 0, 72, .inl (upd xh (z * 24 + k) (fh k)))), (md 5, .inl (τ 0, 72, .inl (upd xp (z * 24 + k) (fp k)))), (md 6, .inl (τ 0, 3, .inl xt)), (md 8, .inl (τ 0, 72, .inl vd)), (md 9, .inl (τ 0, 72, .inl vh)), (md 10, .inl (τ 0, 72, .inl vp)), (md 11, .inl (τ 0, 600, .inl lst)), (md 12, .inl (τ 0, 24, .inl fl)), (md 13, .inl (τ 0, 24, .inl fh)), (md 14, .inl (τ 0, 24, .inl fp))] := hD
      refine lv_iconst (v := 0) hx hb dM_settle_196 (by decide) ?_
      refine lv_istore (lv' := [(4, .int 0), (3, .int 0), (0, .ref (md 0)), (1, .int (nI z)), (2, .int (nI k))]) hx hb dM_settle_197 hl (by decide) rfl (fun ls hl => ?_)
      refine lm_s4 hx hb hml hown hts hK hA md th N K ib ch rs xc sr (upd xd (z * 24 + k) (-1000000)) (upd xh (z * 24 + k) (fh k)) (upd xp (z * 24 + k) (fp k)) vd vh vp lst fl fh fp z k 0 xt (by first | assumption | omega) (by first | assumption | omega) (by first | assumption | omega) ⟨fun _ => c_127, fun _ => rfl⟩ (fun H locs ls hP hD hS hl => ?_) N 0 (by omega) _ _ ls hP hD hS (lv_sub hl [2, 3, 4, 1, 0] rfl)
      refine lv_iinc (v := nI (k + 1)) (lv' := [(2, .int (nI (k + 1))), (0, .ref (md 0)), (1, .int (nI z))]) hx hb dM_settle_299 hl (k := 2) rfl (nI_1 _) (by decide) rfl (fun ls hl => ?_)
      refine lv_goto (tgt := 111) hx hb dM_settle_302 (by decide) ?_
      have e_ : (mS3 N xc fl fh fp z) k (xd, xh, xp, xt) = ((upd xd (z * 24 + k) (-1000000)), (upd xh (z * 24 + k) (fh k)), (upd xp (z * 24 + k) (fp k)), (kItr (mS4 xc fl z k) (N) (xt))) := by unfold mS3; dsimp only; rw [kIf_t c_127]
      (try rw [e_] at ih)
      exact ih H locs ls hP hD hS (lv_sub hl [1, 2, 0] rfl)
    · skip
      refine lv_iconst (v := 1) hx hb dM_settle_130 (by decide) ?_
      refine lv_goto (tgt := 135) hx hb dM_settle_131 (by decide) ?_
      refine lv_istore_n (lv' := [(3, .int 1), (0, .ref (md 0)), (1, .int (nI z)), (2, .int (nI k))]) hx hb dM_settle_135 rfl hl (by decide) rfl (fun ls hl => ?_)
      refine lv_aload_n hx hb dM_settle_136 rfl (lv_at hl 1 rfl) ?_
      refine va_get (D := D) (ci := 5) (v := .ref (md 3)) (C := RM) (T := TM) (N := 24) hx hb hts iM hown hK hP 0 rfl rfl 4 (by decide) (hts _ w_344) (fun _ h9 => h9) rfl dM_settle_137 ?_
      refine lv_bipush (v := 24) hx hb dM_settle_140 (by decide) ?_
      refine lv_iload_n hx hb dM_settle_142 rfl (lv_at hl 2 rfl) ?_
      refine lv_imul hx hb dM_settle_143 ?_
      refine lv_topi (fun y_ ey_ => ?_)
      obtain rfl : y_ = nI (z * 24) := ey_.trans (k_mulL 24 _ rfl)
      refine lv_iload_n hx hb dM_settle_144 rfl (lv_at hl 3 rfl) ?_
      refine lv_iadd hx hb dM_settle_145 ?_
      refine lv_topi (fun y_ ey_ => ?_)
      obtain rfl : y_ = nI (z * 24 + k) := ey_.trans (nI_add _ _)
      refine lv_iload_n hx hb dM_settle_146 rfl (lv_at hl 0 rfl) ?_
      refine lv_if_eq (tgt := 159) hx hb dM_settle_147 (by decide) (fun c_147 => absurd c_147 (by decide)) (fun c_147 => ?_)
      refine lv_aload_n hx hb dM_settle_150 rfl (lv_at hl 1 rfl) ?_
      refine va_get (D := D) (ci := 5) (v := .ref (md 12)) (C := RM) (T := TM) (N := 24) hx hb hts iM hown hK hP 0 rfl rfl 13 (by decide) (hts _ w_353) (fun _ h9 => h9) rfl dM_settle_151 ?_
      refine lv_iload_n hx hb dM_settle_154 rfl (lv_at hl 3 rfl) ?_
      refine ka_iald (k := k) hx hb hK hP 11 0 rfl rfl (by omega) (by omega) rfl dM_settle_155 ?_
      refine lv_goto (tgt := 161) hx hb dM_settle_156 (by decide) ?_
      refine ka_iast (k := z * 24 + k) hx hb hK hP hD hS 3 0 rfl rfl (by omega) (by omega) rfl dM_settle_161 (fun H locs hP hD hS => ?_)
      have hP : va_P D vwCl [(md 0, .inr (5, [.int th, .int (nI N), .ref (md 1), .ref (md 2), .ref (md 3), .ref (md 4), .ref (md 5), .ref (md 6), .ref (md 7), .ref (md 8), .ref (md 9), .ref (md 10), .ref (md 11), .ref (md 12), .ref (md 13), .ref (md 14), .int (nI K), .ref (md 15), .ref (md 16), .ref (md 17), .int ib, .int ch, .int rs, .ref (md 18)])), (md 1, .inl (τ 0, 576, .inl xc)), (md 2, .inl (τ 0, 3, .inl sr)), (md 3, .inl (τ 0, 72, .inl (upd xd (z * 24 + k) (fl k)))), (md 4, .inl (τ 0, 72, .inl xh)), (md 5, .inl (τ 0, 72, .inl xp)), (md 6, .inl (τ 0, 3, .inl xt)), (md 8, .inl (τ 0, 72, .inl vd)), (md 9, .inl (τ 0, 72, .inl vh)), (md 10, .inl (τ 0, 72, .inl vp)), (md 11, .inl (τ 0, 600, .inl lst)), (md 12, .inl (τ 0, 24, .inl fl)), (md 13, .inl (τ 0, 24, .inl fh)), (md 14, .inl (τ 0, 24, .inl fp))] H := hP
      have hD : va_D A [(md 0, .inr (5, [.int th, .int (nI N), .ref (md 1), .ref (md 2), .ref (md 3), .ref (md 4), .ref (md 5), .ref (md 6), .ref (md 7), .ref (md 8), .ref (md 9), .ref (md 10), .ref (md 11), .ref (md 12), .ref (md 13), .ref (md 14), .int (nI K), .ref (md 15), .ref (md 16), .ref (md 17), .int ib, .int ch, .int rs, .ref (md 18)])), (md 1, .inl (τ 0, 576, .inl xc)), (md 2, .inl (τ 0, 3, .inl sr)), (md 3, .inl (τ 0, 72, .inl (upd xd (z * 24 + k) (fl k)))), (md 4, .inl (τ 0, 72, .inl xh)), (md 5, .inl (τ 0, 72, .inl xp)), (md 6, .inl (τ 0, 3, .inl xt)), (md 8, .inl (τ 0, 72, .inl vd)), (md 9, .inl (τ 0, 72, .inl vh)), (md 10, .inl (τ 0, 72, .inl vp)), (md 11, .inl (τ 0, 600, .inl lst)), (md 12, .inl (τ 0, 24, .inl fl)), (md 13, .inl (τ 0, 24, .inl fh)), (md 14, .inl (τ 0, 24, .inl fp))] := hD
      refine lv_aload_n hx hb dM_settle_162 rfl (lv_at hl 1 rfl) ?_
      refine va_get (D := D) (ci := 5) (v := .ref (md 4)) (C := RM) (T := TM) (N := 24) hx hb hts iM hown hK hP 0 rfl rfl 5 (by decide) (hts _ w_345) (fun _ h9 => h9) rfl dM_settle_163 ?_
      refine lv_bipush (v := 24) hx hb dM_settle_166 (by decide) ?_
      refine lv_iload_n hx hb dM_settle_168 rfl (lv_at hl 2 rfl) ?_
      refine lv_imul hx hb dM_settle_169 ?_
      refine lv_topi (fun y_ ey_ => ?_)
      obtain rfl : y_ = nI (z * 24) := ey_.trans (k_mulL 24 _ rfl)
      refine lv_iload_n hx hb dM_settle_170 rfl (lv_at hl 3 rfl) ?_
      refine lv_iadd hx hb dM_settle_171 ?_
      refine lv_topi (fun y_ ey_ => ?_)
      obtain rfl : y_ = nI (z * 24 + k) := ey_.trans (nI_add _ _)
      refine lv_aload_n hx hb dM_settle_172 rfl (lv_at hl 1 rfl) ?_
      refine va_get (D := D) (ci := 5) (v := .ref (md 13)) (C := RM) (T := TM) (N := 24) hx hb hts iM hown hK hP 0 rfl rfl 14 (by decide) (hts _ w_354) (fun _ h9 => h9) rfl dM_settle_173 ?_
      refine lv_iload_n hx hb dM_settle_176 rfl (lv_at hl 3 rfl) ?_
      refine ka_iald (k := k) hx hb hK hP 12 0 rfl rfl (by omega) (by omega) rfl dM_settle_177 ?_
      refine ka_iast (k := z * 24 + k) hx hb hK hP hD hS 4 0 rfl rfl (by omega) (by omega) rfl dM_settle_178 (fun H locs hP hD hS => ?_)
      have hP : va_P D vwCl [(md 0, .inr (5, [.int th, .int (nI N), .ref (md 1), .ref (md 2), .ref (md 3), .ref (md 4), .ref (md 5), .ref (md 6), .ref (md 7), .ref (md 8), .ref (md 9), .ref (md 10), .ref (md 11), .ref (md 12), .ref (md 13), .ref (md 14), .int (nI K), .ref (md 15), .ref (md 16), .ref (md 17), .int ib, .int ch, .int rs, .ref (md 18)])), (md 1, .inl (τ 0, 576, .inl xc)), (md 2, .inl (τ 0, 3, .inl sr)), (md 3, .inl (τ 0, 72, .inl (upd xd (z * 24 + k) (fl k)))), (md 4, .inl (τ 0, 72, .inl (upd xh (z * 24 + k) (fh k)))), (md 5, .inl (τ 0, 72, .inl xp)), (md 6, .inl (τ 0, 3, .inl xt)), (md 8, .inl (τ 0, 72, .inl vd)), (md 9, .inl (τ 0, 72, .inl vh)), (md 10, .inl (τ 0, 72, .inl vp)), (md 11, .inl (τ 0, 600, .inl lst)), (md 12, .inl (τ 0, 24, .inl fl)), (md 13, .inl (τ 0, 24, .inl fh)), (md 14, .inl (τ 0, 24, .inl fp))] H := hP
      have hD : va_D A [(md 0, .inr (5, [.int th, .int (nI N), .ref (md 1), .ref (md 2), .ref (md 3), .ref (md 4), .ref (md 5), .ref (md 6), .ref (md 7), .ref (md 8), .ref (md 9), .ref (md 10), .ref (md 11), .ref (md 12), .ref (md 13), .ref (md 14), .int (nI K), .ref (md 15), .ref (md 16), .ref (md 17), .int ib, .int ch, .int rs, .ref (md 18)])), (md 1, .inl (τ 0, 576, .inl xc)), (md 2, .inl (τ 0, 3, .inl sr)), (md 3, .inl (τ 0, 72, .inl (upd xd (z * 24 + k) (fl k)))), (md 4, .inl (τ 0, 72, .inl (upd xh (z * 24 + k) (fh k)))), (md 5, .inl (τ 0, 72, .inl xp)), (md 6, .inl (τ 0, 3, .inl xt)), (md 8, .inl (τ 0, 72, .inl vd)), (md 9, .inl (τ 0, 72, .inl vh)), (md 10, .inl (τ 0, 72, .inl vp)), (md 11, .inl (τ 0, 600, .inl lst)), (md 12, .inl (τ 0, 24, .inl fl)), (md 13, .inl (τ 0, 24, .inl fh)), (md 14, .inl (τ 0, 24, .inl fp))] := hD
      refine lv_aload_n hx hb dM_settle_179 rfl (lv_at hl 1 rfl) ?_
      refine va_get (D := D) (ci := 5) (v := .ref (md 5)) (C := RM) (T := TM) (N := 24) hx hb hts iM hown hK hP 0 rfl rfl 6 (by decide) (hts _ w_346) (fun _ h9 => h9) rfl dM_settle_180 ?_
      refine lv_bipush (v := 24) hx hb dM_settle_183 (by decide) ?_
      refine lv_iload_n hx hb dM_settle_185 rfl (lv_at hl 2 rfl) ?_
      refine lv_imul hx hb dM_settle_186 ?_
      refine lv_topi (fun y_ ey_ => ?_)
      obtain rfl : y_ = nI (z * 24) := ey_.trans (k_mulL 24 _ rfl)
      refine lv_iload_n hx hb dM_settle_187 rfl (lv_at hl 3 rfl) ?_
      refine lv_iadd hx hb dM_settle_188 ?_
      refine lv_topi (fun y_ ey_ => ?_)
      obtain rfl : y_ = nI (z * 24 + k) := ey_.trans (nI_add _ _)
      refine lv_aload_n hx hb dM_settle_189 rfl (lv_at hl 1 rfl) ?_
      refine va_get (D := D) (ci := 5) (v := .ref (md 14)) (C := RM) (T := TM) (N := 24) hx hb hts iM hown hK hP 0 rfl rfl 15 (by decide) (hts _ w_355) (fun _ h9 => h9) rfl dM_settle_190 ?_
      refine lv_iload_n hx hb dM_settle_193 rfl (lv_at hl 3 rfl) ?_
      refine ka_iald (k := k) hx hb hK hP 13 0 rfl rfl (by omega) (by omega) rfl dM_settle_194 ?_
      refine ka_iast (k := z * 24 + k) hx hb hK hP hD hS 5 0 rfl rfl (by omega) (by omega) rfl dM_settle_195 (fun H locs hP hD hS => ?_)
      have hP : va_P D vwCl [(md 0, .inr (5, [.int th, .int (nI N), .ref (md 1), .ref (md 2), .ref (md 3), .ref (md 4), .ref (md 5), .ref (md 6), .ref (md 7), .ref (md 8), .ref (md 9), .ref (md 10), .ref (md 11), .ref (md 12), .ref (md 13), .ref (md 14), .int (nI K), .ref (md 15), .ref (md 16), .ref (md 17), .int ib, .int ch, .int rs, .ref (md 18)])), (md 1, .inl (τ 0, 576, .inl xc)), (md 2, .inl (τ 0, 3, .inl sr)), (md 3, .inl (τ 0, 72, .inl (upd xd (z * 24 + k) (fl k)))), (md 4, .inl (τ 0, 72, .inl (upd xh (z * 24 + k) (fh k)))), (md 5, .inl (τ 0, 72, .inl (upd xp (z * 24 + k) (fp k)))), (md 6, .inl (τ 0, 3, .inl xt)), (md 8, .inl (τ 0, 72, .inl vd)), (md 9, .inl (τ 0, 72, .inl vh)), (md 10, .inl (τ 0, 72, .inl vp)), (md 11, .inl (τ 0, 600, .inl lst)), (md 12, .inl (τ 0, 24, .inl fl)), (md 13, .inl (τ 0, 24, .inl fh)), (md 14, .inl (τ 0, 24, .inl fp))] H := hP
      have hD : va_D A [(md 0, .inr (5, [.int th, .int (nI N), .ref (md 1), .ref (md 2), .ref (md 3), .ref (md 4), .ref (md 5), .ref (md 6), .ref (md 7), .ref (md 8), .ref (md 9), .ref (md 10), .ref (md 11), .ref (md 12), .ref (md 13), .ref (md 14), .int (nI K), .ref (md 15), .ref (md 16), .ref (md 17), .int ib, .int ch, .int rs, .ref (md 18)])), (md 1, .inl (τ 0, 576, .inl xc)), (md 2, .inl (τ 0, 3, .inl sr)), (md 3, .inl (τ 0, 72, .inl (upd xd (z * 24 + k) (fl k)))), (md 4, .inl (τ 0, 72, .inl (upd xh (z * 24 + k) (fh k)))), (md 5, .inl (τ 0, 72, .inl (upd xp (z * 24 + k) (fp k)))), (md 6, .inl (τ 0, 3, .inl xt)), (md 8, .inl (τ 0, 72, .inl vd)), (md 9, .inl (τ 0, 72, .inl vh)), (md 10, .inl (τ 0, 72, .inl vp)), (md 11, .inl (τ 0, 600, .inl lst)), (md 12, .inl (τ 0, 24, .inl fl)), (md 13, .inl (τ 0, 24, .inl fh)), (md 14, .inl (τ 0, 24, .inl fp))] := hD
      refine lv_iconst (v := 0) hx hb dM_settle_196 (by decide) ?_
      refine lv_istore (lv' := [(4, .int 0), (3, .int 1), (0, .ref (md 0)), (1, .int (nI z)), (2, .int (nI k))]) hx hb dM_settle_197 hl (by decide) rfl (fun ls hl => ?_)
      refine lm_s4 hx hb hml hown hts hK hA md th N K ib ch rs xc sr (upd xd (z * 24 + k) (fl k)) (upd xh (z * 24 + k) (fh k)) (upd xp (z * 24 + k) (fp k)) vd vh vp lst fl fh fp z k 1 xt (by first | assumption | omega) (by first | assumption | omega) (by first | assumption | omega) ⟨fun q => absurd q (by decide), fun q => absurd q c_127⟩ (fun H locs ls hP hD hS hl => ?_) N 0 (by omega) _ _ ls hP hD hS (lv_sub hl [2, 3, 4, 1, 0] rfl)
      refine lv_iinc (v := nI (k + 1)) (lv' := [(2, .int (nI (k + 1))), (0, .ref (md 0)), (1, .int (nI z))]) hx hb dM_settle_299 hl (k := 2) rfl (nI_1 _) (by decide) rfl (fun ls hl => ?_)
      refine lv_goto (tgt := 111) hx hb dM_settle_302 (by decide) ?_
      have e_ : (mS3 N xc fl fh fp z) k (xd, xh, xp, xt) = ((upd xd (z * 24 + k) (fl k)), (upd xh (z * 24 + k) (fh k)), (upd xp (z * 24 + k) (fp k)), (kItr (mS4 xc fl z k) (N) (xt))) := by unfold mS3; dsimp only; rw [kIf_f c_127]
      (try rw [e_] at ih)
      exact ih H locs ls hP hD hS (lv_sub hl [1, 2, 0] rfl)
set_option maxHeartbeats 4000000 in
set_option maxRecDepth 100000 in
theorem lm_s2 {p : Program} {l : Launch} {e : Env} {s : State} {m : MethodId} {args : Array Value} {below : List Frame} {meth : Method} {c : Code} {Q : State → Prop} {D : va_G} {τ : Nat → ClassId} {A : Nat → Prop} (hx : p.tables.exec = Jvm.exec) (hb : c.code = cM_settle) (hml : c.maxLocals = 6) (hown : s.vm.findClass RM = some m.cls) (hts : ∀ w ∈ kTbl, w.before args s = true) (hK : va_K D vwCl (kTys τ) s) (hA : ∀ q : Nat, s.heap.size ≤ q → A q) (md : Nat → Nat) (th : Int32) (N : Nat) (K : Nat) (ib : Int32) (ch : Int32) (rs : Int32) (xc : Nat → Int32) (sr : Nat → Int32) (vd : Nat → Int32) (vh : Nat → Int32) (vp : Nat → Int32) (g1 : Nat → Int32) (g2 : Nat → Int32) (g3 : Nat → Int32) (g4 : Nat → Int32) (g5 : Nat → Int32) (g6 : Nat → Int32) (g7 : Nat → Int32) (g8 : Nat → Int32) (hN : N ≤ 24) (hsr : ∀ q, q < 3 → sr q < 0 ∨ ∃ j, j < N ∧ sr q = nI j)
    (kx : ∀ (H : Heap) (locs : List Loc) (ls : Array Slot), va_P D vwCl [(md 0, .inr (5, [.int th, .int (nI N), .ref (md 1), .ref (md 2), .ref (md 3), .ref (md 4), .ref (md 5), .ref (md 6), .ref (md 7), .ref (md 8), .ref (md 9), .ref (md 10), .ref (md 11), .ref (md 12), .ref (md 13), .ref (md 14), .int (nI K), .ref (md 15), .ref (md 16), .ref (md 17), .int ib, .int ch, .int rs, .ref (md 18)])), (md 1, .inl (τ 0, 576, .inl xc)), (md 2, .inl (τ 0, 3, .inl sr)), (md 3, .inl (τ 0, 72, .inl ((kItr (mS2 N xc sr) 3 (g1, g2, g3, g4, g5, g6, g7, g8)).1))), (md 4, .inl (τ 0, 72, .inl ((kItr (mS2 N xc sr) 3 (g1, g2, g3, g4, g5, g6, g7, g8)).2.1))), (md 5, .inl (τ 0, 72, .inl ((kItr (mS2 N xc sr) 3 (g1, g2, g3, g4, g5, g6, g7, g8)).2.2.1))), (md 6, .inl (τ 0, 3, .inl ((kItr (mS2 N xc sr) 3 (g1, g2, g3, g4, g5, g6, g7, g8)).2.2.2.1))), (md 8, .inl (τ 0, 72, .inl vd)), (md 9, .inl (τ 0, 72, .inl vh)), (md 10, .inl (τ 0, 72, .inl vp)), (md 11, .inl (τ 0, 600, .inl ((kItr (mS2 N xc sr) 3 (g1, g2, g3, g4, g5, g6, g7, g8)).2.2.2.2.1))), (md 12, .inl (τ 0, 24, .inl ((kItr (mS2 N xc sr) 3 (g1, g2, g3, g4, g5, g6, g7, g8)).2.2.2.2.2.1))), (md 13, .inl (τ 0, 24, .inl ((kItr (mS2 N xc sr) 3 (g1, g2, g3, g4, g5, g6, g7, g8)).2.2.2.2.2.2.1))), (md 14, .inl (τ 0, 24, .inl ((kItr (mS2 N xc sr) 3 (g1, g2, g3, g4, g5, g6, g7, g8)).2.2.2.2.2.2.2)))] H → va_D A [(md 0, .inr (5, [.int th, .int (nI N), .ref (md 1), .ref (md 2), .ref (md 3), .ref (md 4), .ref (md 5), .ref (md 6), .ref (md 7), .ref (md 8), .ref (md 9), .ref (md 10), .ref (md 11), .ref (md 12), .ref (md 13), .ref (md 14), .int (nI K), .ref (md 15), .ref (md 16), .ref (md 17), .int ib, .int ch, .int rs, .ref (md 18)])), (md 1, .inl (τ 0, 576, .inl xc)), (md 2, .inl (τ 0, 3, .inl sr)), (md 3, .inl (τ 0, 72, .inl ((kItr (mS2 N xc sr) 3 (g1, g2, g3, g4, g5, g6, g7, g8)).1))), (md 4, .inl (τ 0, 72, .inl ((kItr (mS2 N xc sr) 3 (g1, g2, g3, g4, g5, g6, g7, g8)).2.1))), (md 5, .inl (τ 0, 72, .inl ((kItr (mS2 N xc sr) 3 (g1, g2, g3, g4, g5, g6, g7, g8)).2.2.1))), (md 6, .inl (τ 0, 3, .inl ((kItr (mS2 N xc sr) 3 (g1, g2, g3, g4, g5, g6, g7, g8)).2.2.2.1))), (md 8, .inl (τ 0, 72, .inl vd)), (md 9, .inl (τ 0, 72, .inl vh)), (md 10, .inl (τ 0, 72, .inl vp)), (md 11, .inl (τ 0, 600, .inl ((kItr (mS2 N xc sr) 3 (g1, g2, g3, g4, g5, g6, g7, g8)).2.2.2.2.1))), (md 12, .inl (τ 0, 24, .inl ((kItr (mS2 N xc sr) 3 (g1, g2, g3, g4, g5, g6, g7, g8)).2.2.2.2.2.1))), (md 13, .inl (τ 0, 24, .inl ((kItr (mS2 N xc sr) 3 (g1, g2, g3, g4, g5, g6, g7, g8)).2.2.2.2.2.2.1))), (md 14, .inl (τ 0, 24, .inl ((kItr (mS2 N xc sr) 3 (g1, g2, g3, g4, g5, g6, g7, g8)).2.2.2.2.2.2.2)))] → va_S A s.heap H locs → lv_has ls 6 [(0, .ref (md 0))] → W p l e (headSpec (kWs yM_settle cM_settle 6 none) { frames := 1, cells := 0, slots := 0, locals := 29 }).room s m args below meth c H locs 0 0 Q (F0 m 311 ls [])) :
    ∀ (n k : Nat), k + n = 3 → ∀ (H : Heap) (locs : List Loc) (ls : Array Slot), va_P D vwCl [(md 0, .inr (5, [.int th, .int (nI N), .ref (md 1), .ref (md 2), .ref (md 3), .ref (md 4), .ref (md 5), .ref (md 6), .ref (md 7), .ref (md 8), .ref (md 9), .ref (md 10), .ref (md 11), .ref (md 12), .ref (md 13), .ref (md 14), .int (nI K), .ref (md 15), .ref (md 16), .ref (md 17), .int ib, .int ch, .int rs, .ref (md 18)])), (md 1, .inl (τ 0, 576, .inl xc)), (md 2, .inl (τ 0, 3, .inl sr)), (md 3, .inl (τ 0, 72, .inl ((kItr (mS2 N xc sr) k (g1, g2, g3, g4, g5, g6, g7, g8)).1))), (md 4, .inl (τ 0, 72, .inl ((kItr (mS2 N xc sr) k (g1, g2, g3, g4, g5, g6, g7, g8)).2.1))), (md 5, .inl (τ 0, 72, .inl ((kItr (mS2 N xc sr) k (g1, g2, g3, g4, g5, g6, g7, g8)).2.2.1))), (md 6, .inl (τ 0, 3, .inl ((kItr (mS2 N xc sr) k (g1, g2, g3, g4, g5, g6, g7, g8)).2.2.2.1))), (md 8, .inl (τ 0, 72, .inl vd)), (md 9, .inl (τ 0, 72, .inl vh)), (md 10, .inl (τ 0, 72, .inl vp)), (md 11, .inl (τ 0, 600, .inl ((kItr (mS2 N xc sr) k (g1, g2, g3, g4, g5, g6, g7, g8)).2.2.2.2.1))), (md 12, .inl (τ 0, 24, .inl ((kItr (mS2 N xc sr) k (g1, g2, g3, g4, g5, g6, g7, g8)).2.2.2.2.2.1))), (md 13, .inl (τ 0, 24, .inl ((kItr (mS2 N xc sr) k (g1, g2, g3, g4, g5, g6, g7, g8)).2.2.2.2.2.2.1))), (md 14, .inl (τ 0, 24, .inl ((kItr (mS2 N xc sr) k (g1, g2, g3, g4, g5, g6, g7, g8)).2.2.2.2.2.2.2)))] H → va_D A [(md 0, .inr (5, [.int th, .int (nI N), .ref (md 1), .ref (md 2), .ref (md 3), .ref (md 4), .ref (md 5), .ref (md 6), .ref (md 7), .ref (md 8), .ref (md 9), .ref (md 10), .ref (md 11), .ref (md 12), .ref (md 13), .ref (md 14), .int (nI K), .ref (md 15), .ref (md 16), .ref (md 17), .int ib, .int ch, .int rs, .ref (md 18)])), (md 1, .inl (τ 0, 576, .inl xc)), (md 2, .inl (τ 0, 3, .inl sr)), (md 3, .inl (τ 0, 72, .inl ((kItr (mS2 N xc sr) k (g1, g2, g3, g4, g5, g6, g7, g8)).1))), (md 4, .inl (τ 0, 72, .inl ((kItr (mS2 N xc sr) k (g1, g2, g3, g4, g5, g6, g7, g8)).2.1))), (md 5, .inl (τ 0, 72, .inl ((kItr (mS2 N xc sr) k (g1, g2, g3, g4, g5, g6, g7, g8)).2.2.1))), (md 6, .inl (τ 0, 3, .inl ((kItr (mS2 N xc sr) k (g1, g2, g3, g4, g5, g6, g7, g8)).2.2.2.1))), (md 8, .inl (τ 0, 72, .inl vd)), (md 9, .inl (τ 0, 72, .inl vh)), (md 10, .inl (τ 0, 72, .inl vp)), (md 11, .inl (τ 0, 600, .inl ((kItr (mS2 N xc sr) k (g1, g2, g3, g4, g5, g6, g7, g8)).2.2.2.2.1))), (md 12, .inl (τ 0, 24, .inl ((kItr (mS2 N xc sr) k (g1, g2, g3, g4, g5, g6, g7, g8)).2.2.2.2.2.1))), (md 13, .inl (τ 0, 24, .inl ((kItr (mS2 N xc sr) k (g1, g2, g3, g4, g5, g6, g7, g8)).2.2.2.2.2.2.1))), (md 14, .inl (τ 0, 24, .inl ((kItr (mS2 N xc sr) k (g1, g2, g3, g4, g5, g6, g7, g8)).2.2.2.2.2.2.2)))] → va_S A s.heap H locs → lv_has ls 6 [(0, .ref (md 0)), (1, .int (nI k))] → W p l e (headSpec (kWs yM_settle cM_settle 6 none) { frames := 1, cells := 0, slots := 0, locals := 29 }).room s m args below meth c H locs 0 0 Q (F0 m 76 ls []) := by
  intro n
  induction n with
  | zero =>
    intro k hk H locs ls hP hD hS hl
    have hkN : 3 = k := by omega
    subst hkN
    revert hP hD hl
    generalize hst : (kItr (mS2 N xc sr) 3 (g1, g2, g3, g4, g5, g6, g7, g8)) = st
    intro hP hD hl
    obtain ⟨xd, xh, xp, xt, lst, fl, fh, fp⟩ := st
    have hP : va_P D vwCl [(md 0, .inr (5, [.int th, .int (nI N), .ref (md 1), .ref (md 2), .ref (md 3), .ref (md 4), .ref (md 5), .ref (md 6), .ref (md 7), .ref (md 8), .ref (md 9), .ref (md 10), .ref (md 11), .ref (md 12), .ref (md 13), .ref (md 14), .int (nI K), .ref (md 15), .ref (md 16), .ref (md 17), .int ib, .int ch, .int rs, .ref (md 18)])), (md 1, .inl (τ 0, 576, .inl xc)), (md 2, .inl (τ 0, 3, .inl sr)), (md 3, .inl (τ 0, 72, .inl xd)), (md 4, .inl (τ 0, 72, .inl xh)), (md 5, .inl (τ 0, 72, .inl xp)), (md 6, .inl (τ 0, 3, .inl xt)), (md 8, .inl (τ 0, 72, .inl vd)), (md 9, .inl (τ 0, 72, .inl vh)), (md 10, .inl (τ 0, 72, .inl vp)), (md 11, .inl (τ 0, 600, .inl lst)), (md 12, .inl (τ 0, 24, .inl fl)), (md 13, .inl (τ 0, 24, .inl fh)), (md 14, .inl (τ 0, 24, .inl fp))] H := hP
    have hD : va_D A [(md 0, .inr (5, [.int th, .int (nI N), .ref (md 1), .ref (md 2), .ref (md 3), .ref (md 4), .ref (md 5), .ref (md 6), .ref (md 7), .ref (md 8), .ref (md 9), .ref (md 10), .ref (md 11), .ref (md 12), .ref (md 13), .ref (md 14), .int (nI K), .ref (md 15), .ref (md 16), .ref (md 17), .int ib, .int ch, .int rs, .ref (md 18)])), (md 1, .inl (τ 0, 576, .inl xc)), (md 2, .inl (τ 0, 3, .inl sr)), (md 3, .inl (τ 0, 72, .inl xd)), (md 4, .inl (τ 0, 72, .inl xh)), (md 5, .inl (τ 0, 72, .inl xp)), (md 6, .inl (τ 0, 3, .inl xt)), (md 8, .inl (τ 0, 72, .inl vd)), (md 9, .inl (τ 0, 72, .inl vh)), (md 10, .inl (τ 0, 72, .inl vp)), (md 11, .inl (τ 0, 600, .inl lst)), (md 12, .inl (τ 0, 24, .inl fl)), (md 13, .inl (τ 0, 24, .inl fh)), (md 14, .inl (τ 0, 24, .inl fp))] := hD
    have hl : lv_has ls 6 [(0, .ref (md 0)), (1, .int (nI 3))] := hl
    refine lv_iload_n hx hb dM_settle_76 rfl (lv_at hl 1 rfl) ?_
    refine lv_iconst (v := 3) hx hb dM_settle_77 (by decide) ?_
    refine lv_icmp_ge (tgt := 311) hx hb dM_settle_78 (by decide) (fun c_78 => ?_) (fun c_78 => absurd (by decide) c_78)
    exact kx H locs ls (by (try rw [hst]); exact hP) (by (try rw [hst]); exact hD) hS (by (try rw [hst]); exact lv_sub hl [0] rfl)
  | succ n ih =>
    intro k hk H locs ls hP hD hS hl
    have hkN : k < 3 := by omega
    have ih := ih (k + 1) (by omega)
    rw [kItr_s] at ih
    revert hP hD hl ih
    generalize hst : (kItr (mS2 N xc sr) k (g1, g2, g3, g4, g5, g6, g7, g8)) = st
    intro hP hD hl ih
    obtain ⟨xd, xh, xp, xt, lst, fl, fh, fp⟩ := st
    have hP : va_P D vwCl [(md 0, .inr (5, [.int th, .int (nI N), .ref (md 1), .ref (md 2), .ref (md 3), .ref (md 4), .ref (md 5), .ref (md 6), .ref (md 7), .ref (md 8), .ref (md 9), .ref (md 10), .ref (md 11), .ref (md 12), .ref (md 13), .ref (md 14), .int (nI K), .ref (md 15), .ref (md 16), .ref (md 17), .int ib, .int ch, .int rs, .ref (md 18)])), (md 1, .inl (τ 0, 576, .inl xc)), (md 2, .inl (τ 0, 3, .inl sr)), (md 3, .inl (τ 0, 72, .inl xd)), (md 4, .inl (τ 0, 72, .inl xh)), (md 5, .inl (τ 0, 72, .inl xp)), (md 6, .inl (τ 0, 3, .inl xt)), (md 8, .inl (τ 0, 72, .inl vd)), (md 9, .inl (τ 0, 72, .inl vh)), (md 10, .inl (τ 0, 72, .inl vp)), (md 11, .inl (τ 0, 600, .inl lst)), (md 12, .inl (τ 0, 24, .inl fl)), (md 13, .inl (τ 0, 24, .inl fh)), (md 14, .inl (τ 0, 24, .inl fp))] H := hP
    have hD : va_D A [(md 0, .inr (5, [.int th, .int (nI N), .ref (md 1), .ref (md 2), .ref (md 3), .ref (md 4), .ref (md 5), .ref (md 6), .ref (md 7), .ref (md 8), .ref (md 9), .ref (md 10), .ref (md 11), .ref (md 12), .ref (md 13), .ref (md 14), .int (nI K), .ref (md 15), .ref (md 16), .ref (md 17), .int ib, .int ch, .int rs, .ref (md 18)])), (md 1, .inl (τ 0, 576, .inl xc)), (md 2, .inl (τ 0, 3, .inl sr)), (md 3, .inl (τ 0, 72, .inl xd)), (md 4, .inl (τ 0, 72, .inl xh)), (md 5, .inl (τ 0, 72, .inl xp)), (md 6, .inl (τ 0, 3, .inl xt)), (md 8, .inl (τ 0, 72, .inl vd)), (md 9, .inl (τ 0, 72, .inl vh)), (md 10, .inl (τ 0, 72, .inl vp)), (md 11, .inl (τ 0, 600, .inl lst)), (md 12, .inl (τ 0, 24, .inl fl)), (md 13, .inl (τ 0, 24, .inl fh)), (md 14, .inl (τ 0, 24, .inl fp))] := hD
    have hl : lv_has ls 6 [(0, .ref (md 0)), (1, .int (nI k))] := hl
    refine lv_iload_n hx hb dM_settle_76 rfl (lv_at hl 1 rfl) ?_
    refine lv_iconst (v := 3) hx hb dM_settle_77 (by decide) ?_
    refine lv_icmp_ge (tgt := 311) hx hb dM_settle_78 (by decide) (fun c_78 => absurd c_78 (nI_ge (b := 3) hkN (by decide))) (fun c_78 => ?_)
    refine lv_aload_n hx hb dM_settle_81 rfl (lv_at hl 0 rfl) ?_
    refine va_get (D := D) (ci := 5) (v := .ref (md 6)) (C := RM) (T := TM) (N := 24) hx hb hts iM hown hK hP 0 rfl rfl 7 (by decide) (hts _ w_347) (fun _ h9 => h9) rfl dM_settle_82 ?_
    refine lv_iload_n hx hb dM_settle_85 rfl (lv_at hl 1 rfl) ?_
    refine lv_iconst (v := 0) hx hb dM_settle_86 (by decide) ?_
    refine ka_iast (k := k) hx hb hK hP hD hS 6 0 rfl rfl (by omega) (by omega) rfl dM_settle_87 (fun H locs hP hD hS => ?_)
    have hP : va_P D vwCl [(md 0, .inr (5, [.int th, .int (nI N), .ref (md 1), .ref (md 2), .ref (md 3), .ref (md 4), .ref (md 5), .ref (md 6), .ref (md 7), .ref (md 8), .ref (md 9), .ref (md 10), .ref (md 11), .ref (md 12), .ref (md 13), .ref (md 14), .int (nI K), .ref (md 15), .ref (md 16), .ref (md 17), .int ib, .int ch, .int rs, .ref (md 18)])), (md 1, .inl (τ 0, 576, .inl xc)), (md 2, .inl (τ 0, 3, .inl sr)), (md 3, .inl (τ 0, 72, .inl xd)), (md 4, .inl (τ 0, 72, .inl xh)), (md 5, .inl (τ 0, 72, .inl xp)), (md 6, .inl (τ 0, 3, .inl (upd xt k 0))), (md 8, .inl (τ 0, 72, .inl vd)), (md 9, .inl (τ 0, 72, .inl vh)), (md 10, .inl (τ 0, 72, .inl vp)), (md 11, .inl (τ 0, 600, .inl lst)), (md 12, .inl (τ 0, 24, .inl fl)), (md 13, .inl (τ 0, 24, .inl fh)), (md 14, .inl (τ 0, 24, .inl fp))] H := hP
    have hD : va_D A [(md 0, .inr (5, [.int th, .int (nI N), .ref (md 1), .ref (md 2), .ref (md 3), .ref (md 4), .ref (md 5), .ref (md 6), .ref (md 7), .ref (md 8), .ref (md 9), .ref (md 10), .ref (md 11), .ref (md 12), .ref (md 13), .ref (md 14), .int (nI K), .ref (md 15), .ref (md 16), .ref (md 17), .int ib, .int ch, .int rs, .ref (md 18)])), (md 1, .inl (τ 0, 576, .inl xc)), (md 2, .inl (τ 0, 3, .inl sr)), (md 3, .inl (τ 0, 72, .inl xd)), (md 4, .inl (τ 0, 72, .inl xh)), (md 5, .inl (τ 0, 72, .inl xp)), (md 6, .inl (τ 0, 3, .inl (upd xt k 0))), (md 8, .inl (τ 0, 72, .inl vd)), (md 9, .inl (τ 0, 72, .inl vh)), (md 10, .inl (τ 0, 72, .inl vp)), (md 11, .inl (τ 0, 600, .inl lst)), (md 12, .inl (τ 0, 24, .inl fl)), (md 13, .inl (τ 0, 24, .inl fh)), (md 14, .inl (τ 0, 24, .inl fp))] := hD
    refine lv_aload_n hx hb dM_settle_88 rfl (lv_at hl 0 rfl) ?_
    refine va_get (D := D) (ci := 5) (v := .ref (md 2)) (C := RM) (T := TM) (N := 24) hx hb hts iM hown hK hP 0 rfl rfl 3 (by decide) (hts _ w_343) (fun _ h9 => h9) rfl dM_settle_89 ?_
    refine lv_iload_n hx hb dM_settle_92 rfl (lv_at hl 1 rfl) ?_
    refine ka_iald (k := k) hx hb hK hP 2 0 rfl rfl (by omega) (by omega) rfl dM_settle_93 ?_
    refine lv_if_lt (tgt := 305) hx hb dM_settle_94 (by decide) (fun c_94 => ?_) (fun c_94 => ?_)
    · skip
      refine lv_iinc (v := nI (k + 1)) (lv' := [(1, .int (nI (k + 1))), (0, .ref (md 0))]) hx hb dM_settle_305 hl (k := 1) rfl (nI_1 _) (by decide) rfl (fun ls hl => ?_)
      refine lv_goto (tgt := 76) hx hb dM_settle_308 (by decide) ?_
      have e_ : (mS2 N xc sr) k (xd, xh, xp, xt, lst, fl, fh, fp) = (xd, xh, xp, upd xt k 0, lst, fl, fh, fp) := by unfold mS2; exact kIf_t c_94
      (try rw [e_] at ih)
      exact ih H locs ls hP hD hS (lv_sub hl [1, 0] rfl)
    · skip
      obtain ⟨fr, hfr, efr⟩ := (hsr k hkN).resolve_left c_94
      refine lv_aload_n hx hb dM_settle_97 rfl (lv_at hl 0 rfl) ?_
      refine lv_aload_n hx hb dM_settle_98 rfl (lv_at hl 0 rfl) ?_
      refine va_get (D := D) (ci := 5) (v := .ref (md 2)) (C := RM) (T := TM) (N := 24) hx hb hts iM hown hK hP 0 rfl rfl 3 (by decide) (hts _ w_343) (fun _ h9 => h9) rfl dM_settle_99 ?_
      refine lv_iload_n hx hb dM_settle_102 rfl (lv_at hl 1 rfl) ?_
      refine ka_iald (k := k) hx hb hK hP 2 0 rfl rfl (by omega) (by omega) rfl dM_settle_103 ?_
      refine lv_topi (fun y_ ey_ => ?_)
      obtain rfl : y_ = nI fr := ey_.trans efr
      refine lv_iconst (v := (-1)) hx hb dM_settle_104 (by decide) ?_
      refine lv_iconst (v := (-1)) hx hb dM_settle_105 (by decide) ?_
      refine kc_Vv (As := [.int (nI fr), .int (-1), .int (-1)]) (rest := []) (wr := [(md 2, .inl (τ 0, 3, .inl sr)), (md 3, .inl (τ 0, 72, .inl xd)), (md 4, .inl (τ 0, 72, .inl xh)), (md 5, .inl (τ 0, 72, .inl xp)), (md 6, .inl (τ 0, 3, .inl (upd xt k 0))), (md 8, .inl (τ 0, 72, .inl vd)), (md 9, .inl (τ 0, 72, .inl vh)), (md 10, .inl (τ 0, 72, .inl vp))]) (W1 := [(md 0, .inr (5, [.int th, .int (nI N), .ref (md 1), .ref (md 2), .ref (md 3), .ref (md 4), .ref (md 5), .ref (md 6), .ref (md 7), .ref (md 8), .ref (md 9), .ref (md 10), .ref (md 11), .ref (md 12), .ref (md 13), .ref (md 14), .int (nI K), .ref (md 15), .ref (md 16), .ref (md 17), .int ib, .int ch, .int rs, .ref (md 18)])), (md 1, .inl (τ 0, 576, .inl xc)), (md 2, .inl (τ 0, 3, .inl sr)), (md 3, .inl (τ 0, 72, .inl xd)), (md 4, .inl (τ 0, 72, .inl xh)), (md 5, .inl (τ 0, 72, .inl xp)), (md 6, .inl (τ 0, 3, .inl (upd xt k 0))), (md 8, .inl (τ 0, 72, .inl vd)), (md 9, .inl (τ 0, 72, .inl vh)), (md 10, .inl (τ 0, 72, .inl vp)), (md 11, .inl (τ 0, 600, .inl ((mFind N xc fr (lst, fl, fh, fp)).1))), (md 12, .inl (τ 0, 24, .inl ((mFind N xc fr (lst, fl, fh, fp)).2.1))), (md 13, .inl (τ 0, 24, .inl ((mFind N xc fr (lst, fl, fh, fp)).2.2.1))), (md 14, .inl (τ 0, 24, .inl ((mFind N xc fr (lst, fl, fh, fp)).2.2.2)))]) ⟨hx, hb, hml, hown, hts⟩ (cm_find0 l D τ md th N K ib ch rs xc lst fl fh fp fr (by first | assumption | omega) (by first | assumption | omega)) (kcwV hts qM_find w_336 rfl rfl ⟨Nat.le_of_ble_eq_true rfl, Nat.le_of_ble_eq_true rfl⟩) hK hP hD hS hA [0, 1, 10, 11, 12, 13] [2, 3, 4, 5, 6, 7, 8, 9] [8, 9, 0, 1, 2, 3, 4, 5, 6, 7, 10, 11, 12, 13] rfl rfl (by decide) (by decide) (by decide) rfl rfl rfl (by decide) hl.1 rfl rfl (Nat.le_of_ble_eq_true rfl) ⟨Nat.zero_le _, Nat.zero_le _⟩ dM_settle_106 (fun H locs hP hD hS => ?_)
      refine lv_iconst (v := 0) hx hb dM_settle_109 (by decide) ?_
      refine lv_istore_n (lv' := [(2, .int 0), (0, .ref (md 0)), (1, .int (nI k))]) hx hb dM_settle_110 rfl hl (by decide) rfl (fun ls hl => ?_)
      refine lm_s3 hx hb hml hown hts hK hA md th N K ib ch rs xc sr vd vh vp ((mFind N xc fr (lst, fl, fh, fp)).1) ((mFind N xc fr (lst, fl, fh, fp)).2.1) ((mFind N xc fr (lst, fl, fh, fp)).2.2.1) ((mFind N xc fr (lst, fl, fh, fp)).2.2.2) k xd xh xp (upd xt k 0) (by first | assumption | omega) (by first | assumption | omega) (fun H locs ls hP hD hS hl => ?_) N 0 (by omega) _ _ ls hP hD hS (lv_sub hl [1, 2, 0] rfl)
      refine lv_iinc (v := nI (k + 1)) (lv' := [(1, .int (nI (k + 1))), (0, .ref (md 0))]) hx hb dM_settle_305 hl (k := 1) rfl (nI_1 _) (by decide) rfl (fun ls hl => ?_)
      refine lv_goto (tgt := 76) hx hb dM_settle_308 (by decide) ?_
      have e_ : (mS2 N xc sr) k (xd, xh, xp, xt, lst, fl, fh, fp) = ((kItr (mS3 N xc ((mFind N xc fr (lst, fl, fh, fp)).2.1) ((mFind N xc fr (lst, fl, fh, fp)).2.2.1) ((mFind N xc fr (lst, fl, fh, fp)).2.2.2) k) (N) (xd, xh, xp, (upd xt k 0))).1, (kItr (mS3 N xc ((mFind N xc fr (lst, fl, fh, fp)).2.1) ((mFind N xc fr (lst, fl, fh, fp)).2.2.1) ((mFind N xc fr (lst, fl, fh, fp)).2.2.2) k) (N) (xd, xh, xp, (upd xt k 0))).2.1, (kItr (mS3 N xc ((mFind N xc fr (lst, fl, fh, fp)).2.1) ((mFind N xc fr (lst, fl, fh, fp)).2.2.1) ((mFind N xc fr (lst, fl, fh, fp)).2.2.2) k) (N) (xd, xh, xp, (upd xt k 0))).2.2.1, (kItr (mS3 N xc ((mFind N xc fr (lst, fl, fh, fp)).2.1) ((mFind N xc fr (lst, fl, fh, fp)).2.2.1) ((mFind N xc fr (lst, fl, fh, fp)).2.2.2) k) (N) (xd, xh, xp, (upd xt k 0))).2.2.2, ((mFind N xc fr (lst, fl, fh, fp)).1), ((mFind N xc fr (lst, fl, fh, fp)).2.1), ((mFind N xc fr (lst, fl, fh, fp)).2.2.1), ((mFind N xc fr (lst, fl, fh, fp)).2.2.2)) := by unfold mS2; rw [kIf_f c_94, efr, nI_clamp (by omega)]; try rfl
      (try rw [e_] at ih)
      exact ih H locs ls hP hD hS (lv_sub hl [1, 0] rfl)
set_option maxHeartbeats 20000000 in
set_option maxRecDepth 100000 in
theorem cm_settle (l : Launch) (D : va_G) (τ : Nat → ClassId) (md : Nat → Nat) (th : Int32) (N : Nat) (K : Nat) (ib : Int32) (ch : Int32) (rs : Int32) (xc : Nat → Int32) (sr : Nat → Int32) (xd : Nat → Int32) (xh : Nat → Int32) (xp : Nat → Int32) (xt : Nat → Int32) (vd : Nat → Int32) (vh : Nat → Int32) (vp : Nat → Int32) (lst : Nat → Int32) (fl : Nat → Int32) (fh : Nat → Int32) (fp : Nat → Int32) (hN : N ≤ 24) (hsr : ∀ q, q < 3 → sr q < 0 ∨ ∃ j, j < N ∧ sr q = nI j) : kMv l D τ yM_settle (kWs yM_settle cM_settle 6 none) { frames := 1, cells := 0, slots := 0, locals := 29 } [.ref (md 0)] [(md 0, .inr (5, [.int th, .int (nI N), .ref (md 1), .ref (md 2), .ref (md 3), .ref (md 4), .ref (md 5), .ref (md 6), .ref (md 7), .ref (md 8), .ref (md 9), .ref (md 10), .ref (md 11), .ref (md 12), .ref (md 13), .ref (md 14), .int (nI K), .ref (md 15), .ref (md 16), .ref (md 17), .int ib, .int ch, .int rs, .ref (md 18)])), (md 1, .inl (τ 0, 576, .inl xc)), (md 2, .inl (τ 0, 3, .inl sr)), (md 3, .inl (τ 0, 72, .inl xd)), (md 4, .inl (τ 0, 72, .inl xh)), (md 5, .inl (τ 0, 72, .inl xp)), (md 6, .inl (τ 0, 3, .inl xt)), (md 8, .inl (τ 0, 72, .inl vd)), (md 9, .inl (τ 0, 72, .inl vh)), (md 10, .inl (τ 0, 72, .inl vp)), (md 11, .inl (τ 0, 600, .inl lst)), (md 12, .inl (τ 0, 24, .inl fl)), (md 13, .inl (τ 0, 24, .inl fh)), (md 14, .inl (τ 0, 24, .inl fp))] [(md 0, .inr (5, [.int th, .int (nI N), .ref (md 1), .ref (md 2), .ref (md 3), .ref (md 4), .ref (md 5), .ref (md 6), .ref (md 7), .ref (md 8), .ref (md 9), .ref (md 10), .ref (md 11), .ref (md 12), .ref (md 13), .ref (md 14), .int (nI K), .ref (md 15), .ref (md 16), .ref (md 17), .int ib, .int ch, .int rs, .ref (md 18)])), (md 1, .inl (τ 0, 576, .inl xc)), (md 2, .inl (τ 0, 3, .inl sr)), (md 3, .inl (τ 0, 72, .inl ((mSt2 N xc sr (mCp vd vh vp xd xh xp) xt (lst, fl, fh, fp)).1))), (md 4, .inl (τ 0, 72, .inl ((mSt2 N xc sr (mCp vd vh vp xd xh xp) xt (lst, fl, fh, fp)).2.1))), (md 5, .inl (τ 0, 72, .inl ((mSt2 N xc sr (mCp vd vh vp xd xh xp) xt (lst, fl, fh, fp)).2.2.1))), (md 6, .inl (τ 0, 3, .inl ((mSt2 N xc sr (mCp vd vh vp xd xh xp) xt (lst, fl, fh, fp)).2.2.2.1))), (md 8, .inl (τ 0, 72, .inl ((mCp vd vh vp xd xh xp).1))), (md 9, .inl (τ 0, 72, .inl ((mCp vd vh vp xd xh xp).2.1))), (md 10, .inl (τ 0, 72, .inl ((mCp vd vh vp xd xh xp).2.2.1))), (md 11, .inl (τ 0, 600, .inl ((mSt2 N xc sr (mCp vd vh vp xd xh xp) xt (lst, fl, fh, fp)).2.2.2.2.1))), (md 12, .inl (τ 0, 24, .inl ((mSt2 N xc sr (mCp vd vh vp xd xh xp) xt (lst, fl, fh, fp)).2.2.2.2.2.1))), (md 13, .inl (τ 0, 24, .inl ((mSt2 N xc sr (mCp vd vh vp xd xh xp) xt (lst, fl, fh, fp)).2.2.2.2.2.2.1))), (md 14, .inl (τ 0, 24, .inl ((mSt2 N xc sr (mCp vd vh vp xd xh xp) xt (lst, fl, fh, fp)).2.2.2.2.2.2.2)))] := by
  intro sz
  refine Met.ofW (cc := cM_settle) (maxL := 6) (ret := none) (by decide) rfl ?_
  intro p e s m args below meth c s₁ B hml hv
  obtain ⟨rfl, hsz, hP, hK, hD0⟩ := hv
  have hx := B.exec
  have hb := B.bytes
  have hr := B.returns
  have hts := fun w (hw : w ∈ kTbl) => atoms_spec (ws := (kWs yM_settle cM_settle 6 none)) B.pre w (List.mem_cons_of_mem _ hw)
  have hown : s.vm.findClass RM = some m.cls := findClass_of_methodNamed B.named
  have hlocks := B.notSynchronized
  subst hsz
  have hD := hD0.self (sz := s.heap.size)
  generalize hAe : va_A [(md 0, .inr (5, [.int th, .int (nI N), .ref (md 1), .ref (md 2), .ref (md 3), .ref (md 4), .ref (md 5), .ref (md 6), .ref (md 7), .ref (md 8), .ref (md 9), .ref (md 10), .ref (md 11), .ref (md 12), .ref (md 13), .ref (md 14), .int (nI K), .ref (md 15), .ref (md 16), .ref (md 17), .int ib, .int ch, .int rs, .ref (md 18)])), (md 1, .inl (τ 0, 576, .inl xc)), (md 2, .inl (τ 0, 3, .inl sr)), (md 3, .inl (τ 0, 72, .inl xd)), (md 4, .inl (τ 0, 72, .inl xh)), (md 5, .inl (τ 0, 72, .inl xp)), (md 6, .inl (τ 0, 3, .inl xt)), (md 8, .inl (τ 0, 72, .inl vd)), (md 9, .inl (τ 0, 72, .inl vh)), (md 10, .inl (τ 0, 72, .inl vp)), (md 11, .inl (τ 0, 600, .inl lst)), (md 12, .inl (τ 0, 24, .inl fl)), (md 13, .inl (τ 0, 24, .inl fh)), (md 14, .inl (τ 0, 24, .inl fp))] s.heap.size = A at hD ⊢
  have hA : ∀ q : Nat, s.heap.size ≤ q → A q := fun q h => by rw [← hAe]; exact Or.inr h
  have hS : va_S A s.heap s.heap [] := va_S.rf
  have hP : va_P D vwCl [(md 0, .inr (5, [.int th, .int (nI N), .ref (md 1), .ref (md 2), .ref (md 3), .ref (md 4), .ref (md 5), .ref (md 6), .ref (md 7), .ref (md 8), .ref (md 9), .ref (md 10), .ref (md 11), .ref (md 12), .ref (md 13), .ref (md 14), .int (nI K), .ref (md 15), .ref (md 16), .ref (md 17), .int ib, .int ch, .int rs, .ref (md 18)])), (md 1, .inl (τ 0, 576, .inl xc)), (md 2, .inl (τ 0, 3, .inl sr)), (md 3, .inl (τ 0, 72, .inl xd)), (md 4, .inl (τ 0, 72, .inl xh)), (md 5, .inl (τ 0, 72, .inl xp)), (md 6, .inl (τ 0, 3, .inl xt)), (md 8, .inl (τ 0, 72, .inl vd)), (md 9, .inl (τ 0, 72, .inl vh)), (md 10, .inl (τ 0, 72, .inl vp)), (md 11, .inl (τ 0, 600, .inl lst)), (md 12, .inl (τ 0, 24, .inl fl)), (md 13, .inl (τ 0, 24, .inl fh)), (md 14, .inl (τ 0, 24, .inl fp))] s.heap := hP
  have hl := lv_entry ([.ref (md 0)]) (n := 6) (Nat.le_of_ble_eq_true rfl)
  rw [lg_entry_eq]
  generalize (lg_sl ([.ref (md 0)]) ++ List.replicate (6 - (lg_sl ([.ref (md 0)])).length) Slot.unset).toArray = ls at hl ⊢
  have hl : lv_has ls 6 [(0, .ref (md 0))] := hl
  skip
  refine lv_iconst (v := 0) hx hb dM_settle_0 (by decide) ?_
  refine lv_istore_n (lv' := [(1, .int 0), (0, .ref (md 0))]) hx hb dM_settle_1 rfl hl (by decide) rfl (fun ls hl => ?_)
  refine lm_s1 hx hb hml hown hts hK hA md th N K ib ch rs xc sr xt lst fl fh fp vd vh vp xd xh xp  (fun H locs ls hP hD hS hl => ?_) 72 0 (by omega) _ _ ls hP hD hS (lv_sub hl [1, 0] rfl)
  refine lv_iconst (v := 0) hx hb dM_settle_74 (by decide) ?_
  refine lv_istore_n (lv' := [(1, .int 0), (0, .ref (md 0))]) hx hb dM_settle_75 rfl hl (by decide) rfl (fun ls hl => ?_)
  refine lm_s2 hx hb hml hown hts hK hA md th N K ib ch rs xc sr ((kItr (mS1) (72) (vd, vh, vp, xd, xh, xp)).1) ((kItr (mS1) (72) (vd, vh, vp, xd, xh, xp)).2.1) ((kItr (mS1) (72) (vd, vh, vp, xd, xh, xp)).2.2.1) ((kItr (mS1) (72) (vd, vh, vp, xd, xh, xp)).2.2.2.1) ((kItr (mS1) (72) (vd, vh, vp, xd, xh, xp)).2.2.2.2.1) ((kItr (mS1) (72) (vd, vh, vp, xd, xh, xp)).2.2.2.2.2) xt lst fl fh fp (by first | assumption | omega) (by first | assumption | omega) (fun H locs ls hP hD hS hl => ?_) 3 0 (by omega) _ _ ls hP hD hS (lv_sub hl [1, 0] rfl)
  exact k_vret hx hb hr hlocks hK hS hP hD dM_settle_311
set_option maxHeartbeats 4000000 in
set_option maxRecDepth 100000 in
theorem lm_s6 {p : Program} {l : Launch} {e : Env} {s : State} {m : MethodId} {args : Array Value} {below : List Frame} {meth : Method} {c : Code} {Q : State → Prop} {D : va_G} {τ : Nat → ClassId} {A : Nat → Prop} (hx : p.tables.exec = Jvm.exec) (hb : c.code = cM_count0) (hml : c.maxLocals = 5) (hown : s.vm.findClass RM = some m.cls) (hts : ∀ w ∈ kTbl, w.before args s = true) (hK : va_K D vwCl (kTys τ) s) (hA : ∀ q : Nat, s.heap.size ≤ q → A q) (md : Nat → Nat) (th : Int32) (N : Nat) (K : Nat) (ib : Int32) (ch : Int32) (rs : Int32) (xc : Nat → Int32) (sr : Nat → Int32) (xd : Nat → Int32) (xh : Nat → Int32) (xp : Nat → Int32) (xt : Nat → Int32) (vd : Nat → Int32) (vh : Nat → Int32) (vp : Nat → Int32) (lst : Nat → Int32) (fl : Nat → Int32) (fh : Nat → Int32) (fp : Nat → Int32) (z : Nat) (g : Nat → Int32) (hN : N ≤ 24) (hz : z < 3)
    (kx : ∀ (H : Heap) (locs : List Loc) (ls : Array Slot), va_P D vwCl [(md 0, .inr (5, [.int th, .int (nI N), .ref (md 1), .ref (md 2), .ref (md 3), .ref (md 4), .ref (md 5), .ref (md 6), .ref (md 7), .ref (md 8), .ref (md 9), .ref (md 10), .ref (md 11), .ref (md 12), .ref (md 13), .ref (md 14), .int (nI K), .ref (md 15), .ref (md 16), .ref (md 17), .int ib, .int ch, .int rs, .ref (md 18)])), (md 1, .inl (τ 0, 576, .inl xc)), (md 2, .inl (τ 0, 3, .inl sr)), (md 3, .inl (τ 0, 72, .inl xd)), (md 4, .inl (τ 0, 72, .inl xh)), (md 5, .inl (τ 0, 72, .inl xp)), (md 6, .inl (τ 0, 3, .inl xt)), (md 7, .inl (τ 0, 3, .inl (kItr (mS6 xd xh xp vd vh vp z) N (g)))), (md 8, .inl (τ 0, 72, .inl vd)), (md 9, .inl (τ 0, 72, .inl vh)), (md 10, .inl (τ 0, 72, .inl vp)), (md 11, .inl (τ 0, 600, .inl lst)), (md 12, .inl (τ 0, 24, .inl fl)), (md 13, .inl (τ 0, 24, .inl fh)), (md 14, .inl (τ 0, 24, .inl fp))] H → va_D A [(md 0, .inr (5, [.int th, .int (nI N), .ref (md 1), .ref (md 2), .ref (md 3), .ref (md 4), .ref (md 5), .ref (md 6), .ref (md 7), .ref (md 8), .ref (md 9), .ref (md 10), .ref (md 11), .ref (md 12), .ref (md 13), .ref (md 14), .int (nI K), .ref (md 15), .ref (md 16), .ref (md 17), .int ib, .int ch, .int rs, .ref (md 18)])), (md 1, .inl (τ 0, 576, .inl xc)), (md 2, .inl (τ 0, 3, .inl sr)), (md 3, .inl (τ 0, 72, .inl xd)), (md 4, .inl (τ 0, 72, .inl xh)), (md 5, .inl (τ 0, 72, .inl xp)), (md 6, .inl (τ 0, 3, .inl xt)), (md 7, .inl (τ 0, 3, .inl (kItr (mS6 xd xh xp vd vh vp z) N (g)))), (md 8, .inl (τ 0, 72, .inl vd)), (md 9, .inl (τ 0, 72, .inl vh)), (md 10, .inl (τ 0, 72, .inl vp)), (md 11, .inl (τ 0, 600, .inl lst)), (md 12, .inl (τ 0, 24, .inl fl)), (md 13, .inl (τ 0, 24, .inl fh)), (md 14, .inl (τ 0, 24, .inl fp))] → va_S A s.heap H locs → lv_has ls 5 [(0, .ref (md 0)), (1, .int (nI z))] → W p l e (headSpec (kWs yM_count0 cM_count0 5 none) { frames := 2, cells := 0, slots := 0, locals := 54 }).room s m args below meth c H locs 0 0 Q (F0 m 123 ls [])) :
    ∀ (n k : Nat), k + n = N → ∀ (H : Heap) (locs : List Loc) (ls : Array Slot), va_P D vwCl [(md 0, .inr (5, [.int th, .int (nI N), .ref (md 1), .ref (md 2), .ref (md 3), .ref (md 4), .ref (md 5), .ref (md 6), .ref (md 7), .ref (md 8), .ref (md 9), .ref (md 10), .ref (md 11), .ref (md 12), .ref (md 13), .ref (md 14), .int (nI K), .ref (md 15), .ref (md 16), .ref (md 17), .int ib, .int ch, .int rs, .ref (md 18)])), (md 1, .inl (τ 0, 576, .inl xc)), (md 2, .inl (τ 0, 3, .inl sr)), (md 3, .inl (τ 0, 72, .inl xd)), (md 4, .inl (τ 0, 72, .inl xh)), (md 5, .inl (τ 0, 72, .inl xp)), (md 6, .inl (τ 0, 3, .inl xt)), (md 7, .inl (τ 0, 3, .inl (kItr (mS6 xd xh xp vd vh vp z) k (g)))), (md 8, .inl (τ 0, 72, .inl vd)), (md 9, .inl (τ 0, 72, .inl vh)), (md 10, .inl (τ 0, 72, .inl vp)), (md 11, .inl (τ 0, 600, .inl lst)), (md 12, .inl (τ 0, 24, .inl fl)), (md 13, .inl (τ 0, 24, .inl fh)), (md 14, .inl (τ 0, 24, .inl fp))] H → va_D A [(md 0, .inr (5, [.int th, .int (nI N), .ref (md 1), .ref (md 2), .ref (md 3), .ref (md 4), .ref (md 5), .ref (md 6), .ref (md 7), .ref (md 8), .ref (md 9), .ref (md 10), .ref (md 11), .ref (md 12), .ref (md 13), .ref (md 14), .int (nI K), .ref (md 15), .ref (md 16), .ref (md 17), .int ib, .int ch, .int rs, .ref (md 18)])), (md 1, .inl (τ 0, 576, .inl xc)), (md 2, .inl (τ 0, 3, .inl sr)), (md 3, .inl (τ 0, 72, .inl xd)), (md 4, .inl (τ 0, 72, .inl xh)), (md 5, .inl (τ 0, 72, .inl xp)), (md 6, .inl (τ 0, 3, .inl xt)), (md 7, .inl (τ 0, 3, .inl (kItr (mS6 xd xh xp vd vh vp z) k (g)))), (md 8, .inl (τ 0, 72, .inl vd)), (md 9, .inl (τ 0, 72, .inl vh)), (md 10, .inl (τ 0, 72, .inl vp)), (md 11, .inl (τ 0, 600, .inl lst)), (md 12, .inl (τ 0, 24, .inl fl)), (md 13, .inl (τ 0, 24, .inl fh)), (md 14, .inl (τ 0, 24, .inl fp))] → va_S A s.heap H locs → lv_has ls 5 [(0, .ref (md 0)), (1, .int (nI z)), (2, .int (nI k))] → W p l e (headSpec (kWs yM_count0 cM_count0 5 none) { frames := 2, cells := 0, slots := 0, locals := 54 }).room s m args below meth c H locs 0 0 Q (F0 m 20 ls []) := by
  intro n
  induction n with
  | zero =>
    intro k hk H locs ls hP hD hS hl
    have hkN : N = k := by omega
    subst hkN
    revert hP hD hl
    generalize hst : (kItr (mS6 xd xh xp vd vh vp z) N (g)) = xa
    intro hP hD hl
    have hP : va_P D vwCl [(md 0, .inr (5, [.int th, .int (nI N), .ref (md 1), .ref (md 2), .ref (md 3), .ref (md 4), .ref (md 5), .ref (md 6), .ref (md 7), .ref (md 8), .ref (md 9), .ref (md 10), .ref (md 11), .ref (md 12), .ref (md 13), .ref (md 14), .int (nI K), .ref (md 15), .ref (md 16), .ref (md 17), .int ib, .int ch, .int rs, .ref (md 18)])), (md 1, .inl (τ 0, 576, .inl xc)), (md 2, .inl (τ 0, 3, .inl sr)), (md 3, .inl (τ 0, 72, .inl xd)), (md 4, .inl (τ 0, 72, .inl xh)), (md 5, .inl (τ 0, 72, .inl xp)), (md 6, .inl (τ 0, 3, .inl xt)), (md 7, .inl (τ 0, 3, .inl xa)), (md 8, .inl (τ 0, 72, .inl vd)), (md 9, .inl (τ 0, 72, .inl vh)), (md 10, .inl (τ 0, 72, .inl vp)), (md 11, .inl (τ 0, 600, .inl lst)), (md 12, .inl (τ 0, 24, .inl fl)), (md 13, .inl (τ 0, 24, .inl fh)), (md 14, .inl (τ 0, 24, .inl fp))] H := hP
    have hD : va_D A [(md 0, .inr (5, [.int th, .int (nI N), .ref (md 1), .ref (md 2), .ref (md 3), .ref (md 4), .ref (md 5), .ref (md 6), .ref (md 7), .ref (md 8), .ref (md 9), .ref (md 10), .ref (md 11), .ref (md 12), .ref (md 13), .ref (md 14), .int (nI K), .ref (md 15), .ref (md 16), .ref (md 17), .int ib, .int ch, .int rs, .ref (md 18)])), (md 1, .inl (τ 0, 576, .inl xc)), (md 2, .inl (τ 0, 3, .inl sr)), (md 3, .inl (τ 0, 72, .inl xd)), (md 4, .inl (τ 0, 72, .inl xh)), (md 5, .inl (τ 0, 72, .inl xp)), (md 6, .inl (τ 0, 3, .inl xt)), (md 7, .inl (τ 0, 3, .inl xa)), (md 8, .inl (τ 0, 72, .inl vd)), (md 9, .inl (τ 0, 72, .inl vh)), (md 10, .inl (τ 0, 72, .inl vp)), (md 11, .inl (τ 0, 600, .inl lst)), (md 12, .inl (τ 0, 24, .inl fl)), (md 13, .inl (τ 0, 24, .inl fh)), (md 14, .inl (τ 0, 24, .inl fp))] := hD
    have hl : lv_has ls 5 [(0, .ref (md 0)), (1, .int (nI z)), (2, .int (nI N))] := hl
    refine lv_iload_n hx hb dM_count0_20 rfl (lv_at hl 2 rfl) ?_
    refine lv_aload_n hx hb dM_count0_21 rfl (lv_at hl 0 rfl) ?_
    refine va_get (D := D) (ci := 5) (v := .int (nI N)) (C := RM) (T := TM) (N := 24) hx hb hts iM hown hK hP 0 rfl rfl 1 (by decide) (hts _ w_341) (fun _ h9 => h9) rfl dM_count0_22 ?_
    refine lv_icmp_ge (tgt := 123) hx hb dM_count0_25 (by decide) (fun c_25 => ?_) (fun c_25 => absurd (nI_le (Nat.le_refl _) (by omega)) c_25)
    exact kx H locs ls (by (try rw [hst]); exact hP) (by (try rw [hst]); exact hD) hS (by (try rw [hst]); exact lv_sub hl [0, 1] rfl)
  | succ n ih =>
    intro k hk H locs ls hP hD hS hl
    have hkN : k < N := by omega
    have ih := ih (k + 1) (by omega)
    rw [kItr_s] at ih
    revert hP hD hl ih
    generalize hst : (kItr (mS6 xd xh xp vd vh vp z) k (g)) = xa
    intro hP hD hl ih
    have hP : va_P D vwCl [(md 0, .inr (5, [.int th, .int (nI N), .ref (md 1), .ref (md 2), .ref (md 3), .ref (md 4), .ref (md 5), .ref (md 6), .ref (md 7), .ref (md 8), .ref (md 9), .ref (md 10), .ref (md 11), .ref (md 12), .ref (md 13), .ref (md 14), .int (nI K), .ref (md 15), .ref (md 16), .ref (md 17), .int ib, .int ch, .int rs, .ref (md 18)])), (md 1, .inl (τ 0, 576, .inl xc)), (md 2, .inl (τ 0, 3, .inl sr)), (md 3, .inl (τ 0, 72, .inl xd)), (md 4, .inl (τ 0, 72, .inl xh)), (md 5, .inl (τ 0, 72, .inl xp)), (md 6, .inl (τ 0, 3, .inl xt)), (md 7, .inl (τ 0, 3, .inl xa)), (md 8, .inl (τ 0, 72, .inl vd)), (md 9, .inl (τ 0, 72, .inl vh)), (md 10, .inl (τ 0, 72, .inl vp)), (md 11, .inl (τ 0, 600, .inl lst)), (md 12, .inl (τ 0, 24, .inl fl)), (md 13, .inl (τ 0, 24, .inl fh)), (md 14, .inl (τ 0, 24, .inl fp))] H := hP
    have hD : va_D A [(md 0, .inr (5, [.int th, .int (nI N), .ref (md 1), .ref (md 2), .ref (md 3), .ref (md 4), .ref (md 5), .ref (md 6), .ref (md 7), .ref (md 8), .ref (md 9), .ref (md 10), .ref (md 11), .ref (md 12), .ref (md 13), .ref (md 14), .int (nI K), .ref (md 15), .ref (md 16), .ref (md 17), .int ib, .int ch, .int rs, .ref (md 18)])), (md 1, .inl (τ 0, 576, .inl xc)), (md 2, .inl (τ 0, 3, .inl sr)), (md 3, .inl (τ 0, 72, .inl xd)), (md 4, .inl (τ 0, 72, .inl xh)), (md 5, .inl (τ 0, 72, .inl xp)), (md 6, .inl (τ 0, 3, .inl xt)), (md 7, .inl (τ 0, 3, .inl xa)), (md 8, .inl (τ 0, 72, .inl vd)), (md 9, .inl (τ 0, 72, .inl vh)), (md 10, .inl (τ 0, 72, .inl vp)), (md 11, .inl (τ 0, 600, .inl lst)), (md 12, .inl (τ 0, 24, .inl fl)), (md 13, .inl (τ 0, 24, .inl fh)), (md 14, .inl (τ 0, 24, .inl fp))] := hD
    have hl : lv_has ls 5 [(0, .ref (md 0)), (1, .int (nI z)), (2, .int (nI k))] := hl
    refine lv_iload_n hx hb dM_count0_20 rfl (lv_at hl 2 rfl) ?_
    refine lv_aload_n hx hb dM_count0_21 rfl (lv_at hl 0 rfl) ?_
    refine va_get (D := D) (ci := 5) (v := .int (nI N)) (C := RM) (T := TM) (N := 24) hx hb hts iM hown hK hP 0 rfl rfl 1 (by decide) (hts _ w_341) (fun _ h9 => h9) rfl dM_count0_22 ?_
    refine lv_icmp_ge (tgt := 123) hx hb dM_count0_25 (by decide) (fun c_25 => absurd c_25 (nI_ge hkN (by omega))) (fun c_25 => ?_)
    refine lv_bipush (v := 24) hx hb dM_count0_28 (by decide) ?_
    refine lv_iload_n hx hb dM_count0_30 rfl (lv_at hl 1 rfl) ?_
    refine lv_imul hx hb dM_count0_31 ?_
    refine lv_topi (fun y_ ey_ => ?_)
    obtain rfl : y_ = nI (z * 24) := ey_.trans (k_mulL 24 _ rfl)
    refine lv_iload_n hx hb dM_count0_32 rfl (lv_at hl 2 rfl) ?_
    refine lv_iadd hx hb dM_count0_33 ?_
    refine lv_topi (fun y_ ey_ => ?_)
    obtain rfl : y_ = nI (z * 24 + k) := ey_.trans (nI_add _ _)
    refine lv_istore_n (lv' := [(3, .int (nI (z * 24 + k))), (0, .ref (md 0)), (1, .int (nI z)), (2, .int (nI k))]) hx hb dM_count0_34 rfl hl (by decide) rfl (fun ls hl => ?_)
    refine lv_aload_n hx hb dM_count0_35 rfl (lv_at hl 1 rfl) ?_
    refine va_get (D := D) (ci := 5) (v := .ref (md 3)) (C := RM) (T := TM) (N := 24) hx hb hts iM hown hK hP 0 rfl rfl 4 (by decide) (hts _ w_344) (fun _ h9 => h9) rfl dM_count0_36 ?_
    refine lv_iload_n hx hb dM_count0_39 rfl (lv_at hl 0 rfl) ?_
    refine ka_iald (k := z * 24 + k) hx hb hK hP 3 0 rfl rfl (by omega) (by omega) rfl dM_count0_40 ?_
    refine lv_aload_n hx hb dM_count0_41 rfl (lv_at hl 1 rfl) ?_
    refine va_get (D := D) (ci := 5) (v := .ref (md 8)) (C := RM) (T := TM) (N := 24) hx hb hts iM hown hK hP 0 rfl rfl 9 (by decide) (hts _ w_349) (fun _ h9 => h9) rfl dM_count0_42 ?_
    refine lv_iload_n hx hb dM_count0_45 rfl (lv_at hl 0 rfl) ?_
    refine ka_iald (k := z * 24 + k) hx hb hK hP 8 0 rfl rfl (by omega) (by omega) rfl dM_count0_46 ?_
    refine lv_icmp_ne (tgt := 80) hx hb dM_count0_47 (by decide) (fun c_47 => ?_) (fun c_47 => ?_)
    · skip
      refine lv_iconst (v := 1) hx hb dM_count0_80 (by decide) ?_
      refine lv_goto (tgt := 85) hx hb dM_count0_81 (by decide) ?_
      refine lv_istore (lv' := [(4, .int 1), (3, .int (nI (z * 24 + k))), (0, .ref (md 0)), (1, .int (nI z)), (2, .int (nI k))]) hx hb dM_count0_85 hl (by decide) rfl (fun ls hl => ?_)
      refine lv_aload_n hx hb dM_count0_87 rfl (lv_at hl 2 rfl) ?_
      refine va_get (D := D) (ci := 5) (v := .ref (md 7)) (C := RM) (T := TM) (N := 24) hx hb hts iM hown hK hP 0 rfl rfl 8 (by decide) (hts _ w_348) (fun _ h9 => h9) rfl dM_count0_88 ?_
      refine lv_iload_n hx hb dM_count0_91 rfl (lv_at hl 3 rfl) ?_
      refine lv_iload hx hb dM_count0_92 (lv_at hl 0 rfl) ?_
      refine lv_if_eq (tgt := 110) hx hb dM_count0_94 (by decide) (fun c_94 => absurd c_94 (by decide)) (fun c_94 => ?_)
      refine lv_aload_n hx hb dM_count0_97 rfl (lv_at hl 2 rfl) ?_
      refine va_get (D := D) (ci := 5) (v := .ref (md 7)) (C := RM) (T := TM) (N := 24) hx hb hts iM hown hK hP 0 rfl rfl 8 (by decide) (hts _ w_348) (fun _ h9 => h9) rfl dM_count0_98 ?_
      refine lv_iload_n hx hb dM_count0_101 rfl (lv_at hl 3 rfl) ?_
      refine ka_iald (k := z) hx hb hK hP 7 0 rfl rfl (by omega) (by omega) rfl dM_count0_102 ?_
      refine lv_iconst (v := 1) hx hb dM_count0_103 (by decide) ?_
      refine lv_iload_n hx hb dM_count0_104 rfl (lv_at hl 4 rfl) ?_
      refine lv_ishl hx hb dM_count0_105 ?_
      refine lv_ior hx hb dM_count0_106 ?_
      refine lv_goto (tgt := 116) hx hb dM_count0_107 (by decide) ?_
      refine ka_iast (k := z) hx hb hK hP hD hS 7 0 rfl rfl (by omega) (by omega) rfl dM_count0_116 (fun H locs hP hD hS => ?_)
      have hP : va_P D vwCl [(md 0, .inr (5, [.int th, .int (nI N), .ref (md 1), .ref (md 2), .ref (md 3), .ref (md 4), .ref (md 5), .ref (md 6), .ref (md 7), .ref (md 8), .ref (md 9), .ref (md 10), .ref (md 11), .ref (md 12), .ref (md 13), .ref (md 14), .int (nI K), .ref (md 15), .ref (md 16), .ref (md 17), .int ib, .int ch, .int rs, .ref (md 18)])), (md 1, .inl (τ 0, 576, .inl xc)), (md 2, .inl (τ 0, 3, .inl sr)), (md 3, .inl (τ 0, 72, .inl xd)), (md 4, .inl (τ 0, 72, .inl xh)), (md 5, .inl (τ 0, 72, .inl xp)), (md 6, .inl (τ 0, 3, .inl xt)), (md 7, .inl (τ 0, 3, .inl (upd xa z ((xa z) ||| (1 <<< ((nI k) &&& 31)))))), (md 8, .inl (τ 0, 72, .inl vd)), (md 9, .inl (τ 0, 72, .inl vh)), (md 10, .inl (τ 0, 72, .inl vp)), (md 11, .inl (τ 0, 600, .inl lst)), (md 12, .inl (τ 0, 24, .inl fl)), (md 13, .inl (τ 0, 24, .inl fh)), (md 14, .inl (τ 0, 24, .inl fp))] H := hP
      have hD : va_D A [(md 0, .inr (5, [.int th, .int (nI N), .ref (md 1), .ref (md 2), .ref (md 3), .ref (md 4), .ref (md 5), .ref (md 6), .ref (md 7), .ref (md 8), .ref (md 9), .ref (md 10), .ref (md 11), .ref (md 12), .ref (md 13), .ref (md 14), .int (nI K), .ref (md 15), .ref (md 16), .ref (md 17), .int ib, .int ch, .int rs, .ref (md 18)])), (md 1, .inl (τ 0, 576, .inl xc)), (md 2, .inl (τ 0, 3, .inl sr)), (md 3, .inl (τ 0, 72, .inl xd)), (md 4, .inl (τ 0, 72, .inl xh)), (md 5, .inl (τ 0, 72, .inl xp)), (md 6, .inl (τ 0, 3, .inl xt)), (md 7, .inl (τ 0, 3, .inl (upd xa z ((xa z) ||| (1 <<< ((nI k) &&& 31)))))), (md 8, .inl (τ 0, 72, .inl vd)), (md 9, .inl (τ 0, 72, .inl vh)), (md 10, .inl (τ 0, 72, .inl vp)), (md 11, .inl (τ 0, 600, .inl lst)), (md 12, .inl (τ 0, 24, .inl fl)), (md 13, .inl (τ 0, 24, .inl fh)), (md 14, .inl (τ 0, 24, .inl fp))] := hD
      refine lv_iinc (v := nI (k + 1)) (lv' := [(2, .int (nI (k + 1))), (4, .int 1), (3, .int (nI (z * 24 + k))), (0, .ref (md 0)), (1, .int (nI z))]) hx hb dM_count0_117 hl (k := 4) rfl (nI_1 _) (by decide) rfl (fun ls hl => ?_)
      refine lv_goto (tgt := 20) hx hb dM_count0_120 (by decide) ?_
      have e_ : (mS6 xd xh xp vd vh vp z) k (xa) = (upd xa z ((xa z) ||| (1 <<< ((nI k) &&& 31)))) := by unfold mS6; exact kIf_f (fun q => c_47 q.1)
      (try rw [e_] at ih)
      exact ih H locs ls hP hD hS (lv_sub hl [3, 4, 0] rfl)
    · skip
      refine lv_aload_n hx hb dM_count0_50 rfl (lv_at hl 1 rfl) ?_
      refine va_get (D := D) (ci := 5) (v := .ref (md 4)) (C := RM) (T := TM) (N := 24) hx hb hts iM hown hK hP 0 rfl rfl 5 (by decide) (hts _ w_345) (fun _ h9 => h9) rfl dM_count0_51 ?_
      refine lv_iload_n hx hb dM_count0_54 rfl (lv_at hl 0 rfl) ?_
      refine ka_iald (k := z * 24 + k) hx hb hK hP 4 0 rfl rfl (by omega) (by omega) rfl dM_count0_55 ?_
      refine lv_aload_n hx hb dM_count0_56 rfl (lv_at hl 1 rfl) ?_
      refine va_get (D := D) (ci := 5) (v := .ref (md 9)) (C := RM) (T := TM) (N := 24) hx hb hts iM hown hK hP 0 rfl rfl 10 (by decide) (hts _ w_350) (fun _ h9 => h9) rfl dM_count0_57 ?_
      refine lv_iload_n hx hb dM_count0_60 rfl (lv_at hl 0 rfl) ?_
      refine ka_iald (k := z * 24 + k) hx hb hK hP 9 0 rfl rfl (by omega) (by omega) rfl dM_count0_61 ?_
      refine lv_icmp_ne (tgt := 80) hx hb dM_count0_62 (by decide) (fun c_62 => ?_) (fun c_62 => ?_)
      · skip
        refine lv_iconst (v := 1) hx hb dM_count0_80 (by decide) ?_
        refine lv_goto (tgt := 85) hx hb dM_count0_81 (by decide) ?_
        refine lv_istore (lv' := [(4, .int 1), (3, .int (nI (z * 24 + k))), (0, .ref (md 0)), (1, .int (nI z)), (2, .int (nI k))]) hx hb dM_count0_85 hl (by decide) rfl (fun ls hl => ?_)
        refine lv_aload_n hx hb dM_count0_87 rfl (lv_at hl 2 rfl) ?_
        refine va_get (D := D) (ci := 5) (v := .ref (md 7)) (C := RM) (T := TM) (N := 24) hx hb hts iM hown hK hP 0 rfl rfl 8 (by decide) (hts _ w_348) (fun _ h9 => h9) rfl dM_count0_88 ?_
        refine lv_iload_n hx hb dM_count0_91 rfl (lv_at hl 3 rfl) ?_
        refine lv_iload hx hb dM_count0_92 (lv_at hl 0 rfl) ?_
        refine lv_if_eq (tgt := 110) hx hb dM_count0_94 (by decide) (fun c_94 => absurd c_94 (by decide)) (fun c_94 => ?_)
        refine lv_aload_n hx hb dM_count0_97 rfl (lv_at hl 2 rfl) ?_
        refine va_get (D := D) (ci := 5) (v := .ref (md 7)) (C := RM) (T := TM) (N := 24) hx hb hts iM hown hK hP 0 rfl rfl 8 (by decide) (hts _ w_348) (fun _ h9 => h9) rfl dM_count0_98 ?_
        refine lv_iload_n hx hb dM_count0_101 rfl (lv_at hl 3 rfl) ?_
        refine ka_iald (k := z) hx hb hK hP 7 0 rfl rfl (by omega) (by omega) rfl dM_count0_102 ?_
        refine lv_iconst (v := 1) hx hb dM_count0_103 (by decide) ?_
        refine lv_iload_n hx hb dM_count0_104 rfl (lv_at hl 4 rfl) ?_
        refine lv_ishl hx hb dM_count0_105 ?_
        refine lv_ior hx hb dM_count0_106 ?_
        refine lv_goto (tgt := 116) hx hb dM_count0_107 (by decide) ?_
        refine ka_iast (k := z) hx hb hK hP hD hS 7 0 rfl rfl (by omega) (by omega) rfl dM_count0_116 (fun H locs hP hD hS => ?_)
        have hP : va_P D vwCl [(md 0, .inr (5, [.int th, .int (nI N), .ref (md 1), .ref (md 2), .ref (md 3), .ref (md 4), .ref (md 5), .ref (md 6), .ref (md 7), .ref (md 8), .ref (md 9), .ref (md 10), .ref (md 11), .ref (md 12), .ref (md 13), .ref (md 14), .int (nI K), .ref (md 15), .ref (md 16), .ref (md 17), .int ib, .int ch, .int rs, .ref (md 18)])), (md 1, .inl (τ 0, 576, .inl xc)), (md 2, .inl (τ 0, 3, .inl sr)), (md 3, .inl (τ 0, 72, .inl xd)), (md 4, .inl (τ 0, 72, .inl xh)), (md 5, .inl (τ 0, 72, .inl xp)), (md 6, .inl (τ 0, 3, .inl xt)), (md 7, .inl (τ 0, 3, .inl (upd xa z ((xa z) ||| (1 <<< ((nI k) &&& 31)))))), (md 8, .inl (τ 0, 72, .inl vd)), (md 9, .inl (τ 0, 72, .inl vh)), (md 10, .inl (τ 0, 72, .inl vp)), (md 11, .inl (τ 0, 600, .inl lst)), (md 12, .inl (τ 0, 24, .inl fl)), (md 13, .inl (τ 0, 24, .inl fh)), (md 14, .inl (τ 0, 24, .inl fp))] H := hP
        have hD : va_D A [(md 0, .inr (5, [.int th, .int (nI N), .ref (md 1), .ref (md 2), .ref (md 3), .ref (md 4), .ref (md 5), .ref (md 6), .ref (md 7), .ref (md 8), .ref (md 9), .ref (md 10), .ref (md 11), .ref (md 12), .ref (md 13), .ref (md 14), .int (nI K), .ref (md 15), .ref (md 16), .ref (md 17), .int ib, .int ch, .int rs, .ref (md 18)])), (md 1, .inl (τ 0, 576, .inl xc)), (md 2, .inl (τ 0, 3, .inl sr)), (md 3, .inl (τ 0, 72, .inl xd)), (md 4, .inl (τ 0, 72, .inl xh)), (md 5, .inl (τ 0, 72, .inl xp)), (md 6, .inl (τ 0, 3, .inl xt)), (md 7, .inl (τ 0, 3, .inl (upd xa z ((xa z) ||| (1 <<< ((nI k) &&& 31)))))), (md 8, .inl (τ 0, 72, .inl vd)), (md 9, .inl (τ 0, 72, .inl vh)), (md 10, .inl (τ 0, 72, .inl vp)), (md 11, .inl (τ 0, 600, .inl lst)), (md 12, .inl (τ 0, 24, .inl fl)), (md 13, .inl (τ 0, 24, .inl fh)), (md 14, .inl (τ 0, 24, .inl fp))] := hD
        refine lv_iinc (v := nI (k + 1)) (lv' := [(2, .int (nI (k + 1))), (4, .int 1), (3, .int (nI (z * 24 + k))), (0, .ref (md 0)), (1, .int (nI z))]) hx hb dM_count0_117 hl (k := 4) rfl (nI_1 _) (by decide) rfl (fun ls hl => ?_)
        refine lv_goto (tgt := 20) hx hb dM_count0_120 (by decide) ?_
        have e_ : (mS6 xd xh xp vd vh vp z) k (xa) = (upd xa z ((xa z) ||| (1 <<< ((nI k) &&& 31)))) := by unfold mS6; exact kIf_f (fun q => c_62 q.2.1)
        (try rw [e_] at ih)
        exact ih H locs ls hP hD hS (lv_sub hl [3, 4, 0] rfl)
      · skip
        refine lv_aload_n hx hb dM_count0_65 rfl (lv_at hl 1 rfl) ?_
        refine va_get (D := D) (ci := 5) (v := .ref (md 5)) (C := RM) (T := TM) (N := 24) hx hb hts iM hown hK hP 0 rfl rfl 6 (by decide) (hts _ w_346) (fun _ h9 => h9) rfl dM_count0_66 ?_
        refine lv_iload_n hx hb dM_count0_69 rfl (lv_at hl 0 rfl) ?_
        refine ka_iald (k := z * 24 + k) hx hb hK hP 5 0 rfl rfl (by omega) (by omega) rfl dM_count0_70 ?_
        refine lv_aload_n hx hb dM_count0_71 rfl (lv_at hl 1 rfl) ?_
        refine va_get (D := D) (ci := 5) (v := .ref (md 10)) (C := RM) (T := TM) (N := 24) hx hb hts iM hown hK hP 0 rfl rfl 11 (by decide) (hts _ w_351) (fun _ h9 => h9) rfl dM_count0_72 ?_
        refine lv_iload_n hx hb dM_count0_75 rfl (lv_at hl 0 rfl) ?_
        refine ka_iald (k := z * 24 + k) hx hb hK hP 10 0 rfl rfl (by omega) (by omega) rfl dM_count0_76 ?_
        refine lv_icmp_eq (tgt := 84) hx hb dM_count0_77 (by decide) (fun c_77 => ?_) (fun c_77 => ?_)
        · skip
          refine lv_iconst (v := 0) hx hb dM_count0_84 (by decide) ?_
          refine lv_istore (lv' := [(4, .int 0), (3, .int (nI (z * 24 + k))), (0, .ref (md 0)), (1, .int (nI z)), (2, .int (nI k))]) hx hb dM_count0_85 hl (by decide) rfl (fun ls hl => ?_)
          refine lv_aload_n hx hb dM_count0_87 rfl (lv_at hl 2 rfl) ?_
          refine va_get (D := D) (ci := 5) (v := .ref (md 7)) (C := RM) (T := TM) (N := 24) hx hb hts iM hown hK hP 0 rfl rfl 8 (by decide) (hts _ w_348) (fun _ h9 => h9) rfl dM_count0_88 ?_
          refine lv_iload_n hx hb dM_count0_91 rfl (lv_at hl 3 rfl) ?_
          refine lv_iload hx hb dM_count0_92 (lv_at hl 0 rfl) ?_
          refine lv_if_eq (tgt := 110) hx hb dM_count0_94 (by decide) (fun c_94 => ?_) (fun c_94 => absurd c_94 (by decide))
          refine lv_aload_n hx hb dM_count0_110 rfl (lv_at hl 2 rfl) ?_
          refine va_get (D := D) (ci := 5) (v := .ref (md 7)) (C := RM) (T := TM) (N := 24) hx hb hts iM hown hK hP 0 rfl rfl 8 (by decide) (hts _ w_348) (fun _ h9 => h9) rfl dM_count0_111 ?_
          refine lv_iload_n hx hb dM_count0_114 rfl (lv_at hl 3 rfl) ?_
          refine ka_iald (k := z) hx hb hK hP 7 0 rfl rfl (by omega) (by omega) rfl dM_count0_115 ?_
          refine ka_iast (k := z) hx hb hK hP hD hS 7 0 rfl rfl (by omega) (by omega) rfl dM_count0_116 (fun H locs hP hD hS => ?_)
          have hP : va_P D vwCl [(md 0, .inr (5, [.int th, .int (nI N), .ref (md 1), .ref (md 2), .ref (md 3), .ref (md 4), .ref (md 5), .ref (md 6), .ref (md 7), .ref (md 8), .ref (md 9), .ref (md 10), .ref (md 11), .ref (md 12), .ref (md 13), .ref (md 14), .int (nI K), .ref (md 15), .ref (md 16), .ref (md 17), .int ib, .int ch, .int rs, .ref (md 18)])), (md 1, .inl (τ 0, 576, .inl xc)), (md 2, .inl (τ 0, 3, .inl sr)), (md 3, .inl (τ 0, 72, .inl xd)), (md 4, .inl (τ 0, 72, .inl xh)), (md 5, .inl (τ 0, 72, .inl xp)), (md 6, .inl (τ 0, 3, .inl xt)), (md 7, .inl (τ 0, 3, .inl (upd xa z (xa z)))), (md 8, .inl (τ 0, 72, .inl vd)), (md 9, .inl (τ 0, 72, .inl vh)), (md 10, .inl (τ 0, 72, .inl vp)), (md 11, .inl (τ 0, 600, .inl lst)), (md 12, .inl (τ 0, 24, .inl fl)), (md 13, .inl (τ 0, 24, .inl fh)), (md 14, .inl (τ 0, 24, .inl fp))] H := hP
          have hD : va_D A [(md 0, .inr (5, [.int th, .int (nI N), .ref (md 1), .ref (md 2), .ref (md 3), .ref (md 4), .ref (md 5), .ref (md 6), .ref (md 7), .ref (md 8), .ref (md 9), .ref (md 10), .ref (md 11), .ref (md 12), .ref (md 13), .ref (md 14), .int (nI K), .ref (md 15), .ref (md 16), .ref (md 17), .int ib, .int ch, .int rs, .ref (md 18)])), (md 1, .inl (τ 0, 576, .inl xc)), (md 2, .inl (τ 0, 3, .inl sr)), (md 3, .inl (τ 0, 72, .inl xd)), (md 4, .inl (τ 0, 72, .inl xh)), (md 5, .inl (τ 0, 72, .inl xp)), (md 6, .inl (τ 0, 3, .inl xt)), (md 7, .inl (τ 0, 3, .inl (upd xa z (xa z)))), (md 8, .inl (τ 0, 72, .inl vd)), (md 9, .inl (τ 0, 72, .inl vh)), (md 10, .inl (τ 0, 72, .inl vp)), (md 11, .inl (τ 0, 600, .inl lst)), (md 12, .inl (τ 0, 24, .inl fl)), (md 13, .inl (τ 0, 24, .inl fh)), (md 14, .inl (τ 0, 24, .inl fp))] := hD
          refine lv_iinc (v := nI (k + 1)) (lv' := [(2, .int (nI (k + 1))), (4, .int 0), (3, .int (nI (z * 24 + k))), (0, .ref (md 0)), (1, .int (nI z))]) hx hb dM_count0_117 hl (k := 4) rfl (nI_1 _) (by decide) rfl (fun ls hl => ?_)
          refine lv_goto (tgt := 20) hx hb dM_count0_120 (by decide) ?_
          have e_ : (mS6 xd xh xp vd vh vp z) k (xa) = (upd xa z (xa z)) := by unfold mS6; exact kIf_t ⟨c_47, c_62, c_77⟩
          (try rw [e_] at ih)
          exact ih H locs ls hP hD hS (lv_sub hl [3, 4, 0] rfl)
        · skip
          refine lv_iconst (v := 1) hx hb dM_count0_80 (by decide) ?_
          refine lv_goto (tgt := 85) hx hb dM_count0_81 (by decide) ?_
          refine lv_istore (lv' := [(4, .int 1), (3, .int (nI (z * 24 + k))), (0, .ref (md 0)), (1, .int (nI z)), (2, .int (nI k))]) hx hb dM_count0_85 hl (by decide) rfl (fun ls hl => ?_)
          refine lv_aload_n hx hb dM_count0_87 rfl (lv_at hl 2 rfl) ?_
          refine va_get (D := D) (ci := 5) (v := .ref (md 7)) (C := RM) (T := TM) (N := 24) hx hb hts iM hown hK hP 0 rfl rfl 8 (by decide) (hts _ w_348) (fun _ h9 => h9) rfl dM_count0_88 ?_
          refine lv_iload_n hx hb dM_count0_91 rfl (lv_at hl 3 rfl) ?_
          refine lv_iload hx hb dM_count0_92 (lv_at hl 0 rfl) ?_
          refine lv_if_eq (tgt := 110) hx hb dM_count0_94 (by decide) (fun c_94 => absurd c_94 (by decide)) (fun c_94 => ?_)
          refine lv_aload_n hx hb dM_count0_97 rfl (lv_at hl 2 rfl) ?_
          refine va_get (D := D) (ci := 5) (v := .ref (md 7)) (C := RM) (T := TM) (N := 24) hx hb hts iM hown hK hP 0 rfl rfl 8 (by decide) (hts _ w_348) (fun _ h9 => h9) rfl dM_count0_98 ?_
          refine lv_iload_n hx hb dM_count0_101 rfl (lv_at hl 3 rfl) ?_
          refine ka_iald (k := z) hx hb hK hP 7 0 rfl rfl (by omega) (by omega) rfl dM_count0_102 ?_
          refine lv_iconst (v := 1) hx hb dM_count0_103 (by decide) ?_
          refine lv_iload_n hx hb dM_count0_104 rfl (lv_at hl 4 rfl) ?_
          refine lv_ishl hx hb dM_count0_105 ?_
          refine lv_ior hx hb dM_count0_106 ?_
          refine lv_goto (tgt := 116) hx hb dM_count0_107 (by decide) ?_
          refine ka_iast (k := z) hx hb hK hP hD hS 7 0 rfl rfl (by omega) (by omega) rfl dM_count0_116 (fun H locs hP hD hS => ?_)
          have hP : va_P D vwCl [(md 0, .inr (5, [.int th, .int (nI N), .ref (md 1), .ref (md 2), .ref (md 3), .ref (md 4), .ref (md 5), .ref (md 6), .ref (md 7), .ref (md 8), .ref (md 9), .ref (md 10), .ref (md 11), .ref (md 12), .ref (md 13), .ref (md 14), .int (nI K), .ref (md 15), .ref (md 16), .ref (md 17), .int ib, .int ch, .int rs, .ref (md 18)])), (md 1, .inl (τ 0, 576, .inl xc)), (md 2, .inl (τ 0, 3, .inl sr)), (md 3, .inl (τ 0, 72, .inl xd)), (md 4, .inl (τ 0, 72, .inl xh)), (md 5, .inl (τ 0, 72, .inl xp)), (md 6, .inl (τ 0, 3, .inl xt)), (md 7, .inl (τ 0, 3, .inl (upd xa z ((xa z) ||| (1 <<< ((nI k) &&& 31)))))), (md 8, .inl (τ 0, 72, .inl vd)), (md 9, .inl (τ 0, 72, .inl vh)), (md 10, .inl (τ 0, 72, .inl vp)), (md 11, .inl (τ 0, 600, .inl lst)), (md 12, .inl (τ 0, 24, .inl fl)), (md 13, .inl (τ 0, 24, .inl fh)), (md 14, .inl (τ 0, 24, .inl fp))] H := hP
          have hD : va_D A [(md 0, .inr (5, [.int th, .int (nI N), .ref (md 1), .ref (md 2), .ref (md 3), .ref (md 4), .ref (md 5), .ref (md 6), .ref (md 7), .ref (md 8), .ref (md 9), .ref (md 10), .ref (md 11), .ref (md 12), .ref (md 13), .ref (md 14), .int (nI K), .ref (md 15), .ref (md 16), .ref (md 17), .int ib, .int ch, .int rs, .ref (md 18)])), (md 1, .inl (τ 0, 576, .inl xc)), (md 2, .inl (τ 0, 3, .inl sr)), (md 3, .inl (τ 0, 72, .inl xd)), (md 4, .inl (τ 0, 72, .inl xh)), (md 5, .inl (τ 0, 72, .inl xp)), (md 6, .inl (τ 0, 3, .inl xt)), (md 7, .inl (τ 0, 3, .inl (upd xa z ((xa z) ||| (1 <<< ((nI k) &&& 31)))))), (md 8, .inl (τ 0, 72, .inl vd)), (md 9, .inl (τ 0, 72, .inl vh)), (md 10, .inl (τ 0, 72, .inl vp)), (md 11, .inl (τ 0, 600, .inl lst)), (md 12, .inl (τ 0, 24, .inl fl)), (md 13, .inl (τ 0, 24, .inl fh)), (md 14, .inl (τ 0, 24, .inl fp))] := hD
          refine lv_iinc (v := nI (k + 1)) (lv' := [(2, .int (nI (k + 1))), (4, .int 1), (3, .int (nI (z * 24 + k))), (0, .ref (md 0)), (1, .int (nI z))]) hx hb dM_count0_117 hl (k := 4) rfl (nI_1 _) (by decide) rfl (fun ls hl => ?_)
          refine lv_goto (tgt := 20) hx hb dM_count0_120 (by decide) ?_
          have e_ : (mS6 xd xh xp vd vh vp z) k (xa) = (upd xa z ((xa z) ||| (1 <<< ((nI k) &&& 31)))) := by unfold mS6; exact kIf_f (fun q => c_77 q.2.2)
          (try rw [e_] at ih)
          exact ih H locs ls hP hD hS (lv_sub hl [3, 4, 0] rfl)
set_option maxHeartbeats 4000000 in
set_option maxRecDepth 100000 in
theorem lm_s5 {p : Program} {l : Launch} {e : Env} {s : State} {m : MethodId} {args : Array Value} {below : List Frame} {meth : Method} {c : Code} {Q : State → Prop} {D : va_G} {τ : Nat → ClassId} {A : Nat → Prop} (hx : p.tables.exec = Jvm.exec) (hb : c.code = cM_count0) (hml : c.maxLocals = 5) (hown : s.vm.findClass RM = some m.cls) (hts : ∀ w ∈ kTbl, w.before args s = true) (hK : va_K D vwCl (kTys τ) s) (hA : ∀ q : Nat, s.heap.size ≤ q → A q) (md : Nat → Nat) (th : Int32) (N : Nat) (K : Nat) (ib : Int32) (ch : Int32) (rs : Int32) (xc : Nat → Int32) (sr : Nat → Int32) (xd : Nat → Int32) (xh : Nat → Int32) (xp : Nat → Int32) (xt : Nat → Int32) (vd : Nat → Int32) (vh : Nat → Int32) (vp : Nat → Int32) (lst : Nat → Int32) (fl : Nat → Int32) (fh : Nat → Int32) (fp : Nat → Int32) (g : Nat → Int32) (hN : N ≤ 24)
    (kx : ∀ (H : Heap) (locs : List Loc) (ls : Array Slot), va_P D vwCl [(md 0, .inr (5, [.int th, .int (nI N), .ref (md 1), .ref (md 2), .ref (md 3), .ref (md 4), .ref (md 5), .ref (md 6), .ref (md 7), .ref (md 8), .ref (md 9), .ref (md 10), .ref (md 11), .ref (md 12), .ref (md 13), .ref (md 14), .int (nI K), .ref (md 15), .ref (md 16), .ref (md 17), .int ib, .int ch, .int rs, .ref (md 18)])), (md 1, .inl (τ 0, 576, .inl xc)), (md 2, .inl (τ 0, 3, .inl sr)), (md 3, .inl (τ 0, 72, .inl xd)), (md 4, .inl (τ 0, 72, .inl xh)), (md 5, .inl (τ 0, 72, .inl xp)), (md 6, .inl (τ 0, 3, .inl xt)), (md 7, .inl (τ 0, 3, .inl (kItr (mS5 N xd xh xp vd vh vp) 3 (g)))), (md 8, .inl (τ 0, 72, .inl vd)), (md 9, .inl (τ 0, 72, .inl vh)), (md 10, .inl (τ 0, 72, .inl vp)), (md 11, .inl (τ 0, 600, .inl lst)), (md 12, .inl (τ 0, 24, .inl fl)), (md 13, .inl (τ 0, 24, .inl fh)), (md 14, .inl (τ 0, 24, .inl fp))] H → va_D A [(md 0, .inr (5, [.int th, .int (nI N), .ref (md 1), .ref (md 2), .ref (md 3), .ref (md 4), .ref (md 5), .ref (md 6), .ref (md 7), .ref (md 8), .ref (md 9), .ref (md 10), .ref (md 11), .ref (md 12), .ref (md 13), .ref (md 14), .int (nI K), .ref (md 15), .ref (md 16), .ref (md 17), .int ib, .int ch, .int rs, .ref (md 18)])), (md 1, .inl (τ 0, 576, .inl xc)), (md 2, .inl (τ 0, 3, .inl sr)), (md 3, .inl (τ 0, 72, .inl xd)), (md 4, .inl (τ 0, 72, .inl xh)), (md 5, .inl (τ 0, 72, .inl xp)), (md 6, .inl (τ 0, 3, .inl xt)), (md 7, .inl (τ 0, 3, .inl (kItr (mS5 N xd xh xp vd vh vp) 3 (g)))), (md 8, .inl (τ 0, 72, .inl vd)), (md 9, .inl (τ 0, 72, .inl vh)), (md 10, .inl (τ 0, 72, .inl vp)), (md 11, .inl (τ 0, 600, .inl lst)), (md 12, .inl (τ 0, 24, .inl fl)), (md 13, .inl (τ 0, 24, .inl fh)), (md 14, .inl (τ 0, 24, .inl fp))] → va_S A s.heap H locs → lv_has ls 5 [(0, .ref (md 0))] → W p l e (headSpec (kWs yM_count0 cM_count0 5 none) { frames := 2, cells := 0, slots := 0, locals := 54 }).room s m args below meth c H locs 0 0 Q (F0 m 129 ls [])) :
    ∀ (n k : Nat), k + n = 3 → ∀ (H : Heap) (locs : List Loc) (ls : Array Slot), va_P D vwCl [(md 0, .inr (5, [.int th, .int (nI N), .ref (md 1), .ref (md 2), .ref (md 3), .ref (md 4), .ref (md 5), .ref (md 6), .ref (md 7), .ref (md 8), .ref (md 9), .ref (md 10), .ref (md 11), .ref (md 12), .ref (md 13), .ref (md 14), .int (nI K), .ref (md 15), .ref (md 16), .ref (md 17), .int ib, .int ch, .int rs, .ref (md 18)])), (md 1, .inl (τ 0, 576, .inl xc)), (md 2, .inl (τ 0, 3, .inl sr)), (md 3, .inl (τ 0, 72, .inl xd)), (md 4, .inl (τ 0, 72, .inl xh)), (md 5, .inl (τ 0, 72, .inl xp)), (md 6, .inl (τ 0, 3, .inl xt)), (md 7, .inl (τ 0, 3, .inl (kItr (mS5 N xd xh xp vd vh vp) k (g)))), (md 8, .inl (τ 0, 72, .inl vd)), (md 9, .inl (τ 0, 72, .inl vh)), (md 10, .inl (τ 0, 72, .inl vp)), (md 11, .inl (τ 0, 600, .inl lst)), (md 12, .inl (τ 0, 24, .inl fl)), (md 13, .inl (τ 0, 24, .inl fh)), (md 14, .inl (τ 0, 24, .inl fp))] H → va_D A [(md 0, .inr (5, [.int th, .int (nI N), .ref (md 1), .ref (md 2), .ref (md 3), .ref (md 4), .ref (md 5), .ref (md 6), .ref (md 7), .ref (md 8), .ref (md 9), .ref (md 10), .ref (md 11), .ref (md 12), .ref (md 13), .ref (md 14), .int (nI K), .ref (md 15), .ref (md 16), .ref (md 17), .int ib, .int ch, .int rs, .ref (md 18)])), (md 1, .inl (τ 0, 576, .inl xc)), (md 2, .inl (τ 0, 3, .inl sr)), (md 3, .inl (τ 0, 72, .inl xd)), (md 4, .inl (τ 0, 72, .inl xh)), (md 5, .inl (τ 0, 72, .inl xp)), (md 6, .inl (τ 0, 3, .inl xt)), (md 7, .inl (τ 0, 3, .inl (kItr (mS5 N xd xh xp vd vh vp) k (g)))), (md 8, .inl (τ 0, 72, .inl vd)), (md 9, .inl (τ 0, 72, .inl vh)), (md 10, .inl (τ 0, 72, .inl vp)), (md 11, .inl (τ 0, 600, .inl lst)), (md 12, .inl (τ 0, 24, .inl fl)), (md 13, .inl (τ 0, 24, .inl fh)), (md 14, .inl (τ 0, 24, .inl fp))] → va_S A s.heap H locs → lv_has ls 5 [(0, .ref (md 0)), (1, .int (nI k))] → W p l e (headSpec (kWs yM_count0 cM_count0 5 none) { frames := 2, cells := 0, slots := 0, locals := 54 }).room s m args below meth c H locs 0 0 Q (F0 m 6 ls []) := by
  intro n
  induction n with
  | zero =>
    intro k hk H locs ls hP hD hS hl
    have hkN : 3 = k := by omega
    subst hkN
    revert hP hD hl
    generalize hst : (kItr (mS5 N xd xh xp vd vh vp) 3 (g)) = xa
    intro hP hD hl
    have hP : va_P D vwCl [(md 0, .inr (5, [.int th, .int (nI N), .ref (md 1), .ref (md 2), .ref (md 3), .ref (md 4), .ref (md 5), .ref (md 6), .ref (md 7), .ref (md 8), .ref (md 9), .ref (md 10), .ref (md 11), .ref (md 12), .ref (md 13), .ref (md 14), .int (nI K), .ref (md 15), .ref (md 16), .ref (md 17), .int ib, .int ch, .int rs, .ref (md 18)])), (md 1, .inl (τ 0, 576, .inl xc)), (md 2, .inl (τ 0, 3, .inl sr)), (md 3, .inl (τ 0, 72, .inl xd)), (md 4, .inl (τ 0, 72, .inl xh)), (md 5, .inl (τ 0, 72, .inl xp)), (md 6, .inl (τ 0, 3, .inl xt)), (md 7, .inl (τ 0, 3, .inl xa)), (md 8, .inl (τ 0, 72, .inl vd)), (md 9, .inl (τ 0, 72, .inl vh)), (md 10, .inl (τ 0, 72, .inl vp)), (md 11, .inl (τ 0, 600, .inl lst)), (md 12, .inl (τ 0, 24, .inl fl)), (md 13, .inl (τ 0, 24, .inl fh)), (md 14, .inl (τ 0, 24, .inl fp))] H := hP
    have hD : va_D A [(md 0, .inr (5, [.int th, .int (nI N), .ref (md 1), .ref (md 2), .ref (md 3), .ref (md 4), .ref (md 5), .ref (md 6), .ref (md 7), .ref (md 8), .ref (md 9), .ref (md 10), .ref (md 11), .ref (md 12), .ref (md 13), .ref (md 14), .int (nI K), .ref (md 15), .ref (md 16), .ref (md 17), .int ib, .int ch, .int rs, .ref (md 18)])), (md 1, .inl (τ 0, 576, .inl xc)), (md 2, .inl (τ 0, 3, .inl sr)), (md 3, .inl (τ 0, 72, .inl xd)), (md 4, .inl (τ 0, 72, .inl xh)), (md 5, .inl (τ 0, 72, .inl xp)), (md 6, .inl (τ 0, 3, .inl xt)), (md 7, .inl (τ 0, 3, .inl xa)), (md 8, .inl (τ 0, 72, .inl vd)), (md 9, .inl (τ 0, 72, .inl vh)), (md 10, .inl (τ 0, 72, .inl vp)), (md 11, .inl (τ 0, 600, .inl lst)), (md 12, .inl (τ 0, 24, .inl fl)), (md 13, .inl (τ 0, 24, .inl fh)), (md 14, .inl (τ 0, 24, .inl fp))] := hD
    have hl : lv_has ls 5 [(0, .ref (md 0)), (1, .int (nI 3))] := hl
    refine lv_iload_n hx hb dM_count0_6 rfl (lv_at hl 1 rfl) ?_
    refine lv_iconst (v := 3) hx hb dM_count0_7 (by decide) ?_
    refine lv_icmp_ge (tgt := 129) hx hb dM_count0_8 (by decide) (fun c_8 => ?_) (fun c_8 => absurd (by decide) c_8)
    exact kx H locs ls (by (try rw [hst]); exact hP) (by (try rw [hst]); exact hD) hS (by (try rw [hst]); exact lv_sub hl [0] rfl)
  | succ n ih =>
    intro k hk H locs ls hP hD hS hl
    have hkN : k < 3 := by omega
    have ih := ih (k + 1) (by omega)
    rw [kItr_s] at ih
    revert hP hD hl ih
    generalize hst : (kItr (mS5 N xd xh xp vd vh vp) k (g)) = xa
    intro hP hD hl ih
    have hP : va_P D vwCl [(md 0, .inr (5, [.int th, .int (nI N), .ref (md 1), .ref (md 2), .ref (md 3), .ref (md 4), .ref (md 5), .ref (md 6), .ref (md 7), .ref (md 8), .ref (md 9), .ref (md 10), .ref (md 11), .ref (md 12), .ref (md 13), .ref (md 14), .int (nI K), .ref (md 15), .ref (md 16), .ref (md 17), .int ib, .int ch, .int rs, .ref (md 18)])), (md 1, .inl (τ 0, 576, .inl xc)), (md 2, .inl (τ 0, 3, .inl sr)), (md 3, .inl (τ 0, 72, .inl xd)), (md 4, .inl (τ 0, 72, .inl xh)), (md 5, .inl (τ 0, 72, .inl xp)), (md 6, .inl (τ 0, 3, .inl xt)), (md 7, .inl (τ 0, 3, .inl xa)), (md 8, .inl (τ 0, 72, .inl vd)), (md 9, .inl (τ 0, 72, .inl vh)), (md 10, .inl (τ 0, 72, .inl vp)), (md 11, .inl (τ 0, 600, .inl lst)), (md 12, .inl (τ 0, 24, .inl fl)), (md 13, .inl (τ 0, 24, .inl fh)), (md 14, .inl (τ 0, 24, .inl fp))] H := hP
    have hD : va_D A [(md 0, .inr (5, [.int th, .int (nI N), .ref (md 1), .ref (md 2), .ref (md 3), .ref (md 4), .ref (md 5), .ref (md 6), .ref (md 7), .ref (md 8), .ref (md 9), .ref (md 10), .ref (md 11), .ref (md 12), .ref (md 13), .ref (md 14), .int (nI K), .ref (md 15), .ref (md 16), .ref (md 17), .int ib, .int ch, .int rs, .ref (md 18)])), (md 1, .inl (τ 0, 576, .inl xc)), (md 2, .inl (τ 0, 3, .inl sr)), (md 3, .inl (τ 0, 72, .inl xd)), (md 4, .inl (τ 0, 72, .inl xh)), (md 5, .inl (τ 0, 72, .inl xp)), (md 6, .inl (τ 0, 3, .inl xt)), (md 7, .inl (τ 0, 3, .inl xa)), (md 8, .inl (τ 0, 72, .inl vd)), (md 9, .inl (τ 0, 72, .inl vh)), (md 10, .inl (τ 0, 72, .inl vp)), (md 11, .inl (τ 0, 600, .inl lst)), (md 12, .inl (τ 0, 24, .inl fl)), (md 13, .inl (τ 0, 24, .inl fh)), (md 14, .inl (τ 0, 24, .inl fp))] := hD
    have hl : lv_has ls 5 [(0, .ref (md 0)), (1, .int (nI k))] := hl
    refine lv_iload_n hx hb dM_count0_6 rfl (lv_at hl 1 rfl) ?_
    refine lv_iconst (v := 3) hx hb dM_count0_7 (by decide) ?_
    refine lv_icmp_ge (tgt := 129) hx hb dM_count0_8 (by decide) (fun c_8 => absurd c_8 (nI_ge (b := 3) hkN (by decide))) (fun c_8 => ?_)
    refine lv_aload_n hx hb dM_count0_11 rfl (lv_at hl 0 rfl) ?_
    refine va_get (D := D) (ci := 5) (v := .ref (md 7)) (C := RM) (T := TM) (N := 24) hx hb hts iM hown hK hP 0 rfl rfl 8 (by decide) (hts _ w_348) (fun _ h9 => h9) rfl dM_count0_12 ?_
    refine lv_iload_n hx hb dM_count0_15 rfl (lv_at hl 1 rfl) ?_
    refine lv_iconst (v := 0) hx hb dM_count0_16 (by decide) ?_
    refine ka_iast (k := k) hx hb hK hP hD hS 7 0 rfl rfl (by omega) (by omega) rfl dM_count0_17 (fun H locs hP hD hS => ?_)
    have hP : va_P D vwCl [(md 0, .inr (5, [.int th, .int (nI N), .ref (md 1), .ref (md 2), .ref (md 3), .ref (md 4), .ref (md 5), .ref (md 6), .ref (md 7), .ref (md 8), .ref (md 9), .ref (md 10), .ref (md 11), .ref (md 12), .ref (md 13), .ref (md 14), .int (nI K), .ref (md 15), .ref (md 16), .ref (md 17), .int ib, .int ch, .int rs, .ref (md 18)])), (md 1, .inl (τ 0, 576, .inl xc)), (md 2, .inl (τ 0, 3, .inl sr)), (md 3, .inl (τ 0, 72, .inl xd)), (md 4, .inl (τ 0, 72, .inl xh)), (md 5, .inl (τ 0, 72, .inl xp)), (md 6, .inl (τ 0, 3, .inl xt)), (md 7, .inl (τ 0, 3, .inl (upd xa k 0))), (md 8, .inl (τ 0, 72, .inl vd)), (md 9, .inl (τ 0, 72, .inl vh)), (md 10, .inl (τ 0, 72, .inl vp)), (md 11, .inl (τ 0, 600, .inl lst)), (md 12, .inl (τ 0, 24, .inl fl)), (md 13, .inl (τ 0, 24, .inl fh)), (md 14, .inl (τ 0, 24, .inl fp))] H := hP
    have hD : va_D A [(md 0, .inr (5, [.int th, .int (nI N), .ref (md 1), .ref (md 2), .ref (md 3), .ref (md 4), .ref (md 5), .ref (md 6), .ref (md 7), .ref (md 8), .ref (md 9), .ref (md 10), .ref (md 11), .ref (md 12), .ref (md 13), .ref (md 14), .int (nI K), .ref (md 15), .ref (md 16), .ref (md 17), .int ib, .int ch, .int rs, .ref (md 18)])), (md 1, .inl (τ 0, 576, .inl xc)), (md 2, .inl (τ 0, 3, .inl sr)), (md 3, .inl (τ 0, 72, .inl xd)), (md 4, .inl (τ 0, 72, .inl xh)), (md 5, .inl (τ 0, 72, .inl xp)), (md 6, .inl (τ 0, 3, .inl xt)), (md 7, .inl (τ 0, 3, .inl (upd xa k 0))), (md 8, .inl (τ 0, 72, .inl vd)), (md 9, .inl (τ 0, 72, .inl vh)), (md 10, .inl (τ 0, 72, .inl vp)), (md 11, .inl (τ 0, 600, .inl lst)), (md 12, .inl (τ 0, 24, .inl fl)), (md 13, .inl (τ 0, 24, .inl fh)), (md 14, .inl (τ 0, 24, .inl fp))] := hD
    refine lv_iconst (v := 0) hx hb dM_count0_18 (by decide) ?_
    refine lv_istore_n (lv' := [(2, .int 0), (0, .ref (md 0)), (1, .int (nI k))]) hx hb dM_count0_19 rfl hl (by decide) rfl (fun ls hl => ?_)
    refine lm_s6 hx hb hml hown hts hK hA md th N K ib ch rs xc sr xd xh xp xt vd vh vp lst fl fh fp k (upd xa k 0) (by first | assumption | omega) (by first | assumption | omega) (fun H locs ls hP hD hS hl => ?_) N 0 (by omega) _ _ ls hP hD hS (lv_sub hl [1, 2, 0] rfl)
    refine lv_iinc (v := nI (k + 1)) (lv' := [(1, .int (nI (k + 1))), (0, .ref (md 0))]) hx hb dM_count0_123 hl (k := 1) rfl (nI_1 _) (by decide) rfl (fun ls hl => ?_)
    refine lv_goto (tgt := 6) hx hb dM_count0_126 (by decide) ?_
    have e_ : (mS5 N xd xh xp vd vh vp) k (xa) = ((kItr (mS6 xd xh xp vd vh vp k) (N) ((upd xa k 0)))) := by rfl
    (try rw [e_] at ih)
    exact ih H locs ls hP hD hS (lv_sub hl [1, 0] rfl)
set_option maxHeartbeats 20000000 in
set_option maxRecDepth 100000 in
theorem cm_count (l : Launch) (D : va_G) (τ : Nat → ClassId) (md : Nat → Nat) (th : Int32) (N : Nat) (K : Nat) (ib : Int32) (ch : Int32) (rs : Int32) (xc : Nat → Int32) (sr : Nat → Int32) (xd : Nat → Int32) (xh : Nat → Int32) (xp : Nat → Int32) (xt : Nat → Int32) (xa : Nat → Int32) (vd : Nat → Int32) (vh : Nat → Int32) (vp : Nat → Int32) (lst : Nat → Int32) (fl : Nat → Int32) (fh : Nat → Int32) (fp : Nat → Int32) (hN : N ≤ 24) (hsr : ∀ q, q < 3 → sr q < 0 ∨ ∃ j, j < N ∧ sr q = nI j) : kMv l D τ yM_count0 (kWs yM_count0 cM_count0 5 none) { frames := 2, cells := 0, slots := 0, locals := 54 } [.ref (md 0)] [(md 0, .inr (5, [.int th, .int (nI N), .ref (md 1), .ref (md 2), .ref (md 3), .ref (md 4), .ref (md 5), .ref (md 6), .ref (md 7), .ref (md 8), .ref (md 9), .ref (md 10), .ref (md 11), .ref (md 12), .ref (md 13), .ref (md 14), .int (nI K), .ref (md 15), .ref (md 16), .ref (md 17), .int ib, .int ch, .int rs, .ref (md 18)])), (md 1, .inl (τ 0, 576, .inl xc)), (md 2, .inl (τ 0, 3, .inl sr)), (md 3, .inl (τ 0, 72, .inl xd)), (md 4, .inl (τ 0, 72, .inl xh)), (md 5, .inl (τ 0, 72, .inl xp)), (md 6, .inl (τ 0, 3, .inl xt)), (md 7, .inl (τ 0, 3, .inl xa)), (md 8, .inl (τ 0, 72, .inl vd)), (md 9, .inl (τ 0, 72, .inl vh)), (md 10, .inl (τ 0, 72, .inl vp)), (md 11, .inl (τ 0, 600, .inl lst)), (md 12, .inl (τ 0, 24, .inl fl)), (md 13, .inl (τ 0, 24, .inl fh)), (md 14, .inl (τ 0, 24, .inl fp))] [(md 0, .inr (5, [.int th, .int (nI N), .ref (md 1), .ref (md 2), .ref (md 3), .ref (md 4), .ref (md 5), .ref (md 6), .ref (md 7), .ref (md 8), .ref (md 9), .ref (md 10), .ref (md 11), .ref (md 12), .ref (md 13), .ref (md 14), .int (nI K), .ref (md 15), .ref (md 16), .ref (md 17), .int ib, .int ch, .int rs, .ref (md 18)])), (md 1, .inl (τ 0, 576, .inl xc)), (md 2, .inl (τ 0, 3, .inl sr)), (md 3, .inl (τ 0, 72, .inl ((mSt2 N xc sr (mCp vd vh vp xd xh xp) xt (lst, fl, fh, fp)).1))), (md 4, .inl (τ 0, 72, .inl ((mSt2 N xc sr (mCp vd vh vp xd xh xp) xt (lst, fl, fh, fp)).2.1))), (md 5, .inl (τ 0, 72, .inl ((mSt2 N xc sr (mCp vd vh vp xd xh xp) xt (lst, fl, fh, fp)).2.2.1))), (md 6, .inl (τ 0, 3, .inl ((mSt2 N xc sr (mCp vd vh vp xd xh xp) xt (lst, fl, fh, fp)).2.2.2.1))), (md 7, .inl (τ 0, 3, .inl (kItr (mS5 N (mSt2 N xc sr (mCp vd vh vp xd xh xp) xt (lst, fl, fh, fp)).1 (mSt2 N xc sr (mCp vd vh vp xd xh xp) xt (lst, fl, fh, fp)).2.1 (mSt2 N xc sr (mCp vd vh vp xd xh xp) xt (lst, fl, fh, fp)).2.2.1 (mCp vd vh vp xd xh xp).1 (mCp vd vh vp xd xh xp).2.1 (mCp vd vh vp xd xh xp).2.2.1) 3 xa))), (md 8, .inl (τ 0, 72, .inl ((mCp vd vh vp xd xh xp).1))), (md 9, .inl (τ 0, 72, .inl ((mCp vd vh vp xd xh xp).2.1))), (md 10, .inl (τ 0, 72, .inl ((mCp vd vh vp xd xh xp).2.2.1))), (md 11, .inl (τ 0, 600, .inl ((mSt2 N xc sr (mCp vd vh vp xd xh xp) xt (lst, fl, fh, fp)).2.2.2.2.1))), (md 12, .inl (τ 0, 24, .inl ((mSt2 N xc sr (mCp vd vh vp xd xh xp) xt (lst, fl, fh, fp)).2.2.2.2.2.1))), (md 13, .inl (τ 0, 24, .inl ((mSt2 N xc sr (mCp vd vh vp xd xh xp) xt (lst, fl, fh, fp)).2.2.2.2.2.2.1))), (md 14, .inl (τ 0, 24, .inl ((mSt2 N xc sr (mCp vd vh vp xd xh xp) xt (lst, fl, fh, fp)).2.2.2.2.2.2.2)))] := by
  intro sz
  refine Met.ofW (cc := cM_count0) (maxL := 5) (ret := none) (by decide) rfl ?_
  intro p e s m args below meth c s₁ B hml hv
  obtain ⟨rfl, hsz, hP, hK, hD0⟩ := hv
  have hx := B.exec
  have hb := B.bytes
  have hr := B.returns
  have hts := fun w (hw : w ∈ kTbl) => atoms_spec (ws := (kWs yM_count0 cM_count0 5 none)) B.pre w (List.mem_cons_of_mem _ hw)
  have hown : s.vm.findClass RM = some m.cls := findClass_of_methodNamed B.named
  have hlocks := B.notSynchronized
  subst hsz
  have hD := hD0.self (sz := s.heap.size)
  generalize hAe : va_A [(md 0, .inr (5, [.int th, .int (nI N), .ref (md 1), .ref (md 2), .ref (md 3), .ref (md 4), .ref (md 5), .ref (md 6), .ref (md 7), .ref (md 8), .ref (md 9), .ref (md 10), .ref (md 11), .ref (md 12), .ref (md 13), .ref (md 14), .int (nI K), .ref (md 15), .ref (md 16), .ref (md 17), .int ib, .int ch, .int rs, .ref (md 18)])), (md 1, .inl (τ 0, 576, .inl xc)), (md 2, .inl (τ 0, 3, .inl sr)), (md 3, .inl (τ 0, 72, .inl xd)), (md 4, .inl (τ 0, 72, .inl xh)), (md 5, .inl (τ 0, 72, .inl xp)), (md 6, .inl (τ 0, 3, .inl xt)), (md 7, .inl (τ 0, 3, .inl xa)), (md 8, .inl (τ 0, 72, .inl vd)), (md 9, .inl (τ 0, 72, .inl vh)), (md 10, .inl (τ 0, 72, .inl vp)), (md 11, .inl (τ 0, 600, .inl lst)), (md 12, .inl (τ 0, 24, .inl fl)), (md 13, .inl (τ 0, 24, .inl fh)), (md 14, .inl (τ 0, 24, .inl fp))] s.heap.size = A at hD ⊢
  have hA : ∀ q : Nat, s.heap.size ≤ q → A q := fun q h => by rw [← hAe]; exact Or.inr h
  have hS : va_S A s.heap s.heap [] := va_S.rf
  have hP : va_P D vwCl [(md 0, .inr (5, [.int th, .int (nI N), .ref (md 1), .ref (md 2), .ref (md 3), .ref (md 4), .ref (md 5), .ref (md 6), .ref (md 7), .ref (md 8), .ref (md 9), .ref (md 10), .ref (md 11), .ref (md 12), .ref (md 13), .ref (md 14), .int (nI K), .ref (md 15), .ref (md 16), .ref (md 17), .int ib, .int ch, .int rs, .ref (md 18)])), (md 1, .inl (τ 0, 576, .inl xc)), (md 2, .inl (τ 0, 3, .inl sr)), (md 3, .inl (τ 0, 72, .inl xd)), (md 4, .inl (τ 0, 72, .inl xh)), (md 5, .inl (τ 0, 72, .inl xp)), (md 6, .inl (τ 0, 3, .inl xt)), (md 7, .inl (τ 0, 3, .inl xa)), (md 8, .inl (τ 0, 72, .inl vd)), (md 9, .inl (τ 0, 72, .inl vh)), (md 10, .inl (τ 0, 72, .inl vp)), (md 11, .inl (τ 0, 600, .inl lst)), (md 12, .inl (τ 0, 24, .inl fl)), (md 13, .inl (τ 0, 24, .inl fh)), (md 14, .inl (τ 0, 24, .inl fp))] s.heap := hP
  have hl := lv_entry ([.ref (md 0)]) (n := 5) (Nat.le_of_ble_eq_true rfl)
  rw [lg_entry_eq]
  generalize (lg_sl ([.ref (md 0)]) ++ List.replicate (5 - (lg_sl ([.ref (md 0)])).length) Slot.unset).toArray = ls at hl ⊢
  have hl : lv_has ls 5 [(0, .ref (md 0))] := hl
  skip
  refine lv_aload_n hx hb dM_count0_0 rfl (lv_at hl 0 rfl) ?_
  refine kc_Vv (As := []) (rest := []) (wr := [(md 7, .inl (τ 0, 3, .inl xa))]) (W1 := [(md 0, .inr (5, [.int th, .int (nI N), .ref (md 1), .ref (md 2), .ref (md 3), .ref (md 4), .ref (md 5), .ref (md 6), .ref (md 7), .ref (md 8), .ref (md 9), .ref (md 10), .ref (md 11), .ref (md 12), .ref (md 13), .ref (md 14), .int (nI K), .ref (md 15), .ref (md 16), .ref (md 17), .int ib, .int ch, .int rs, .ref (md 18)])), (md 1, .inl (τ 0, 576, .inl xc)), (md 2, .inl (τ 0, 3, .inl sr)), (md 3, .inl (τ 0, 72, .inl ((mSt2 N xc sr (mCp vd vh vp xd xh xp) xt (lst, fl, fh, fp)).1))), (md 4, .inl (τ 0, 72, .inl ((mSt2 N xc sr (mCp vd vh vp xd xh xp) xt (lst, fl, fh, fp)).2.1))), (md 5, .inl (τ 0, 72, .inl ((mSt2 N xc sr (mCp vd vh vp xd xh xp) xt (lst, fl, fh, fp)).2.2.1))), (md 6, .inl (τ 0, 3, .inl ((mSt2 N xc sr (mCp vd vh vp xd xh xp) xt (lst, fl, fh, fp)).2.2.2.1))), (md 7, .inl (τ 0, 3, .inl xa)), (md 8, .inl (τ 0, 72, .inl ((mCp vd vh vp xd xh xp).1))), (md 9, .inl (τ 0, 72, .inl ((mCp vd vh vp xd xh xp).2.1))), (md 10, .inl (τ 0, 72, .inl ((mCp vd vh vp xd xh xp).2.2.1))), (md 11, .inl (τ 0, 600, .inl ((mSt2 N xc sr (mCp vd vh vp xd xh xp) xt (lst, fl, fh, fp)).2.2.2.2.1))), (md 12, .inl (τ 0, 24, .inl ((mSt2 N xc sr (mCp vd vh vp xd xh xp) xt (lst, fl, fh, fp)).2.2.2.2.2.1))), (md 13, .inl (τ 0, 24, .inl ((mSt2 N xc sr (mCp vd vh vp xd xh xp) xt (lst, fl, fh, fp)).2.2.2.2.2.2.1))), (md 14, .inl (τ 0, 24, .inl ((mSt2 N xc sr (mCp vd vh vp xd xh xp) xt (lst, fl, fh, fp)).2.2.2.2.2.2.2)))]) ⟨hx, hb, hml, hown, hts⟩ (cm_settle l D τ md th N K ib ch rs xc sr xd xh xp xt vd vh vp lst fl fh fp (by first | assumption | omega) (by first | assumption | omega)) (kcwV hts qM_settle w_331 rfl rfl ⟨Nat.le_of_ble_eq_true rfl, Nat.le_of_ble_eq_true rfl⟩) hK hP hD hS hA [0, 1, 2, 3, 4, 5, 6, 8, 9, 10, 11, 12, 13, 14] [7] [1, 2, 3, 4, 5, 6, 7, 0, 8, 9, 10, 11, 12, 13, 14] rfl rfl (by decide) (by decide) (by decide) rfl rfl rfl (by decide) hl.1 rfl rfl (Nat.le_of_ble_eq_true rfl) ⟨Nat.zero_le _, Nat.zero_le _⟩ dM_count0_1 (fun H locs hP hD hS => ?_)
  refine lv_iconst (v := 0) hx hb dM_count0_4 (by decide) ?_
  refine lv_istore_n (lv' := [(1, .int 0), (0, .ref (md 0))]) hx hb dM_count0_5 rfl hl (by decide) rfl (fun ls hl => ?_)
  refine lm_s5 hx hb hml hown hts hK hA md th N K ib ch rs xc sr ((mSt2 N xc sr (mCp vd vh vp xd xh xp) xt (lst, fl, fh, fp)).1) ((mSt2 N xc sr (mCp vd vh vp xd xh xp) xt (lst, fl, fh, fp)).2.1) ((mSt2 N xc sr (mCp vd vh vp xd xh xp) xt (lst, fl, fh, fp)).2.2.1) ((mSt2 N xc sr (mCp vd vh vp xd xh xp) xt (lst, fl, fh, fp)).2.2.2.1) ((mCp vd vh vp xd xh xp).1) ((mCp vd vh vp xd xh xp).2.1) ((mCp vd vh vp xd xh xp).2.2.1) ((mSt2 N xc sr (mCp vd vh vp xd xh xp) xt (lst, fl, fh, fp)).2.2.2.2.1) ((mSt2 N xc sr (mCp vd vh vp xd xh xp) xt (lst, fl, fh, fp)).2.2.2.2.2.1) ((mSt2 N xc sr (mCp vd vh vp xd xh xp) xt (lst, fl, fh, fp)).2.2.2.2.2.2.1) ((mSt2 N xc sr (mCp vd vh vp xd xh xp) xt (lst, fl, fh, fp)).2.2.2.2.2.2.2) xa (by first | assumption | omega) (fun H locs ls hP hD hS hl => ?_) 3 0 (by omega) _ _ ls hP hD hS (lv_sub hl [1, 0] rfl)
  exact k_vret hx hb hr hlocks hK hS hP hD dM_count0_129
set_option maxHeartbeats 4000000 in
set_option maxRecDepth 100000 in
theorem lm_k1 {p : Program} {l : Launch} {e : Env} {s : State} {m : MethodId} {args : Array Value} {below : List Frame} {meth : Method} {c : Code} {Q : State → Prop} {D : va_G} {τ : Nat → ClassId} {A : Nat → Prop} (hx : p.tables.exec = Jvm.exec) (hb : c.code = cM_keep) (hml : c.maxLocals = 2) (hown : s.vm.findClass RM = some m.cls) (hts : ∀ w ∈ kTbl, w.before args s = true) (hK : va_K D vwCl (kTys τ) s) (hA : ∀ q : Nat, s.heap.size ≤ q → A q) (md : Nat → Nat) (th : Int32) (N : Nat) (ib : Int32) (ch : Int32) (rs : Int32) (qp : Nat → Int32) (qe : Nat → Int32) (g : Nat → Int32) 
    (kx : ∀ (H : Heap) (locs : List Loc) (ls : Array Slot), va_P D vwCl [(md 0, .inr (5, [.int th, .int (nI N), .ref (md 1), .ref (md 2), .ref (md 3), .ref (md 4), .ref (md 5), .ref (md 6), .ref (md 7), .ref (md 8), .ref (md 9), .ref (md 10), .ref (md 11), .ref (md 12), .ref (md 13), .ref (md 14), .int (nI 40), .ref (md 15), .ref (md 16), .ref (md 17), .int ib, .int ch, .int rs, .ref (md 18)])), (md 15, .inl (τ 0, 41, .inl (kItr (mKm) 40 (g)))), (md 16, .inl (τ 0, 1230, .inl qp)), (md 17, .inl (τ 0, 1230, .inl qe))] H → va_D A [(md 0, .inr (5, [.int th, .int (nI N), .ref (md 1), .ref (md 2), .ref (md 3), .ref (md 4), .ref (md 5), .ref (md 6), .ref (md 7), .ref (md 8), .ref (md 9), .ref (md 10), .ref (md 11), .ref (md 12), .ref (md 13), .ref (md 14), .int (nI 40), .ref (md 15), .ref (md 16), .ref (md 17), .int ib, .int ch, .int rs, .ref (md 18)])), (md 15, .inl (τ 0, 41, .inl (kItr (mKm) 40 (g)))), (md 16, .inl (τ 0, 1230, .inl qp)), (md 17, .inl (τ 0, 1230, .inl qe))] → va_S A s.heap H locs → lv_has ls 2 [(0, .ref (md 0))] → W p l e (headSpec (kWs yM_keep cM_keep 2 none) { frames := 0, cells := 0, slots := 0, locals := 0 }).room s m args below meth c H locs 0 0 Q (F0 m 53 ls [])) :
    ∀ (n k : Nat), k + n = 40 → ∀ (H : Heap) (locs : List Loc) (ls : Array Slot), va_P D vwCl [(md 0, .inr (5, [.int th, .int (nI N), .ref (md 1), .ref (md 2), .ref (md 3), .ref (md 4), .ref (md 5), .ref (md 6), .ref (md 7), .ref (md 8), .ref (md 9), .ref (md 10), .ref (md 11), .ref (md 12), .ref (md 13), .ref (md 14), .int (nI 40), .ref (md 15), .ref (md 16), .ref (md 17), .int ib, .int ch, .int rs, .ref (md 18)])), (md 15, .inl (τ 0, 41, .inl (kItr (mKm) k (g)))), (md 16, .inl (τ 0, 1230, .inl qp)), (md 17, .inl (τ 0, 1230, .inl qe))] H → va_D A [(md 0, .inr (5, [.int th, .int (nI N), .ref (md 1), .ref (md 2), .ref (md 3), .ref (md 4), .ref (md 5), .ref (md 6), .ref (md 7), .ref (md 8), .ref (md 9), .ref (md 10), .ref (md 11), .ref (md 12), .ref (md 13), .ref (md 14), .int (nI 40), .ref (md 15), .ref (md 16), .ref (md 17), .int ib, .int ch, .int rs, .ref (md 18)])), (md 15, .inl (τ 0, 41, .inl (kItr (mKm) k (g)))), (md 16, .inl (τ 0, 1230, .inl qp)), (md 17, .inl (τ 0, 1230, .inl qe))] → va_S A s.heap H locs → lv_has ls 2 [(0, .ref (md 0)), (1, .int (nI k))] → W p l e (headSpec (kWs yM_keep cM_keep 2 none) { frames := 0, cells := 0, slots := 0, locals := 0 }).room s m args below meth c H locs 0 0 Q (F0 m 27 ls []) := by
  intro n
  induction n with
  | zero =>
    intro k hk H locs ls hP hD hS hl
    have hkN : 40 = k := by omega
    subst hkN
    revert hP hD hl
    generalize hst : (kItr (mKm) 40 (g)) = mn
    intro hP hD hl
    have hP : va_P D vwCl [(md 0, .inr (5, [.int th, .int (nI N), .ref (md 1), .ref (md 2), .ref (md 3), .ref (md 4), .ref (md 5), .ref (md 6), .ref (md 7), .ref (md 8), .ref (md 9), .ref (md 10), .ref (md 11), .ref (md 12), .ref (md 13), .ref (md 14), .int (nI 40), .ref (md 15), .ref (md 16), .ref (md 17), .int ib, .int ch, .int rs, .ref (md 18)])), (md 15, .inl (τ 0, 41, .inl mn)), (md 16, .inl (τ 0, 1230, .inl qp)), (md 17, .inl (τ 0, 1230, .inl qe))] H := hP
    have hD : va_D A [(md 0, .inr (5, [.int th, .int (nI N), .ref (md 1), .ref (md 2), .ref (md 3), .ref (md 4), .ref (md 5), .ref (md 6), .ref (md 7), .ref (md 8), .ref (md 9), .ref (md 10), .ref (md 11), .ref (md 12), .ref (md 13), .ref (md 14), .int (nI 40), .ref (md 15), .ref (md 16), .ref (md 17), .int ib, .int ch, .int rs, .ref (md 18)])), (md 15, .inl (τ 0, 41, .inl mn)), (md 16, .inl (τ 0, 1230, .inl qp)), (md 17, .inl (τ 0, 1230, .inl qe))] := hD
    have hl : lv_has ls 2 [(0, .ref (md 0)), (1, .int (nI 40))] := hl
    refine lv_iload_n hx hb dM_keep_27 rfl (lv_at hl 1 rfl) ?_
    refine lv_bipush (v := 40) hx hb dM_keep_28 (by decide) ?_
    refine lv_icmp_ge (tgt := 53) hx hb dM_keep_30 (by decide) (fun c_30 => ?_) (fun c_30 => absurd (by decide) c_30)
    exact kx H locs ls (by (try rw [hst]); exact hP) (by (try rw [hst]); exact hD) hS (by (try rw [hst]); exact lv_sub hl [0] rfl)
  | succ n ih =>
    intro k hk H locs ls hP hD hS hl
    have hkN : k < 40 := by omega
    have ih := ih (k + 1) (by omega)
    rw [kItr_s] at ih
    revert hP hD hl ih
    generalize hst : (kItr (mKm) k (g)) = mn
    intro hP hD hl ih
    have hP : va_P D vwCl [(md 0, .inr (5, [.int th, .int (nI N), .ref (md 1), .ref (md 2), .ref (md 3), .ref (md 4), .ref (md 5), .ref (md 6), .ref (md 7), .ref (md 8), .ref (md 9), .ref (md 10), .ref (md 11), .ref (md 12), .ref (md 13), .ref (md 14), .int (nI 40), .ref (md 15), .ref (md 16), .ref (md 17), .int ib, .int ch, .int rs, .ref (md 18)])), (md 15, .inl (τ 0, 41, .inl mn)), (md 16, .inl (τ 0, 1230, .inl qp)), (md 17, .inl (τ 0, 1230, .inl qe))] H := hP
    have hD : va_D A [(md 0, .inr (5, [.int th, .int (nI N), .ref (md 1), .ref (md 2), .ref (md 3), .ref (md 4), .ref (md 5), .ref (md 6), .ref (md 7), .ref (md 8), .ref (md 9), .ref (md 10), .ref (md 11), .ref (md 12), .ref (md 13), .ref (md 14), .int (nI 40), .ref (md 15), .ref (md 16), .ref (md 17), .int ib, .int ch, .int rs, .ref (md 18)])), (md 15, .inl (τ 0, 41, .inl mn)), (md 16, .inl (τ 0, 1230, .inl qp)), (md 17, .inl (τ 0, 1230, .inl qe))] := hD
    have hl : lv_has ls 2 [(0, .ref (md 0)), (1, .int (nI k))] := hl
    refine lv_iload_n hx hb dM_keep_27 rfl (lv_at hl 1 rfl) ?_
    refine lv_bipush (v := 40) hx hb dM_keep_28 (by decide) ?_
    refine lv_icmp_ge (tgt := 53) hx hb dM_keep_30 (by decide) (fun c_30 => absurd c_30 (nI_ge (b := 40) hkN (by decide))) (fun c_30 => ?_)
    refine lv_aload_n hx hb dM_keep_33 rfl (lv_at hl 0 rfl) ?_
    refine va_get (D := D) (ci := 5) (v := .ref (md 15)) (C := RM) (T := TM) (N := 24) hx hb hts iM hown hK hP 0 rfl rfl 17 (by decide) (hts _ w_357) (fun _ h9 => h9) rfl dM_keep_34 ?_
    refine lv_iload_n hx hb dM_keep_37 rfl (lv_at hl 1 rfl) ?_
    refine lv_aload_n hx hb dM_keep_38 rfl (lv_at hl 0 rfl) ?_
    refine va_get (D := D) (ci := 5) (v := .ref (md 15)) (C := RM) (T := TM) (N := 24) hx hb hts iM hown hK hP 0 rfl rfl 17 (by decide) (hts _ w_357) (fun _ h9 => h9) rfl dM_keep_39 ?_
    refine lv_iload_n hx hb dM_keep_42 rfl (lv_at hl 1 rfl) ?_
    refine lv_iconst (v := 1) hx hb dM_keep_43 (by decide) ?_
    refine lv_iadd hx hb dM_keep_44 ?_
    refine lv_topi (fun y_ ey_ => ?_)
    obtain rfl : y_ = nI (k + 1) := ey_.trans (nI_add _ 1)
    refine ka_iald (k := k + 1) hx hb hK hP 1 0 rfl rfl (by omega) (by omega) rfl dM_keep_45 ?_
    refine ka_iast (k := k) hx hb hK hP hD hS 1 0 rfl rfl (by omega) (by omega) rfl dM_keep_46 (fun H locs hP hD hS => ?_)
    have hP : va_P D vwCl [(md 0, .inr (5, [.int th, .int (nI N), .ref (md 1), .ref (md 2), .ref (md 3), .ref (md 4), .ref (md 5), .ref (md 6), .ref (md 7), .ref (md 8), .ref (md 9), .ref (md 10), .ref (md 11), .ref (md 12), .ref (md 13), .ref (md 14), .int (nI 40), .ref (md 15), .ref (md 16), .ref (md 17), .int ib, .int ch, .int rs, .ref (md 18)])), (md 15, .inl (τ 0, 41, .inl (upd mn k (mn (k + 1))))), (md 16, .inl (τ 0, 1230, .inl qp)), (md 17, .inl (τ 0, 1230, .inl qe))] H := hP
    have hD : va_D A [(md 0, .inr (5, [.int th, .int (nI N), .ref (md 1), .ref (md 2), .ref (md 3), .ref (md 4), .ref (md 5), .ref (md 6), .ref (md 7), .ref (md 8), .ref (md 9), .ref (md 10), .ref (md 11), .ref (md 12), .ref (md 13), .ref (md 14), .int (nI 40), .ref (md 15), .ref (md 16), .ref (md 17), .int ib, .int ch, .int rs, .ref (md 18)])), (md 15, .inl (τ 0, 41, .inl (upd mn k (mn (k + 1))))), (md 16, .inl (τ 0, 1230, .inl qp)), (md 17, .inl (τ 0, 1230, .inl qe))] := hD
    refine lv_iinc (v := nI (k + 1)) (lv' := [(1, .int (nI (k + 1))), (0, .ref (md 0))]) hx hb dM_keep_47 hl (k := 1) rfl (nI_1 _) (by decide) rfl (fun ls hl => ?_)
    refine lv_goto (tgt := 27) hx hb dM_keep_50 (by decide) ?_
    have e_ : (mKm) k (mn) = (upd mn k (mn (k + 1))) := by rfl
    (try rw [e_] at ih)
    exact ih H locs ls hP hD hS (lv_sub hl [1, 0] rfl)
set_option maxHeartbeats 4000000 in
set_option maxRecDepth 100000 in
theorem lm_k2 {p : Program} {l : Launch} {e : Env} {s : State} {m : MethodId} {args : Array Value} {below : List Frame} {meth : Method} {c : Code} {Q : State → Prop} {D : va_G} {τ : Nat → ClassId} {A : Nat → Prop} (hx : p.tables.exec = Jvm.exec) (hb : c.code = cM_keep) (hml : c.maxLocals = 2) (hown : s.vm.findClass RM = some m.cls) (hts : ∀ w ∈ kTbl, w.before args s = true) (hK : va_K D vwCl (kTys τ) s) (hA : ∀ q : Nat, s.heap.size ≤ q → A q) (md : Nat → Nat) (th : Int32) (N : Nat) (ib : Int32) (ch : Int32) (rs : Int32) (mn : Nat → Int32) (g1 : Nat → Int32) (g2 : Nat → Int32) 
    (kx : ∀ (H : Heap) (locs : List Loc) (ls : Array Slot), va_P D vwCl [(md 0, .inr (5, [.int th, .int (nI N), .ref (md 1), .ref (md 2), .ref (md 3), .ref (md 4), .ref (md 5), .ref (md 6), .ref (md 7), .ref (md 8), .ref (md 9), .ref (md 10), .ref (md 11), .ref (md 12), .ref (md 13), .ref (md 14), .int (nI 40), .ref (md 15), .ref (md 16), .ref (md 17), .int ib, .int ch, .int rs, .ref (md 18)])), (md 15, .inl (τ 0, 41, .inl mn)), (md 16, .inl (τ 0, 1230, .inl ((kItr (mKq) 1200 (g1, g2)).1))), (md 17, .inl (τ 0, 1230, .inl ((kItr (mKq) 1200 (g1, g2)).2)))] H → va_D A [(md 0, .inr (5, [.int th, .int (nI N), .ref (md 1), .ref (md 2), .ref (md 3), .ref (md 4), .ref (md 5), .ref (md 6), .ref (md 7), .ref (md 8), .ref (md 9), .ref (md 10), .ref (md 11), .ref (md 12), .ref (md 13), .ref (md 14), .int (nI 40), .ref (md 15), .ref (md 16), .ref (md 17), .int ib, .int ch, .int rs, .ref (md 18)])), (md 15, .inl (τ 0, 41, .inl mn)), (md 16, .inl (τ 0, 1230, .inl ((kItr (mKq) 1200 (g1, g2)).1))), (md 17, .inl (τ 0, 1230, .inl ((kItr (mKq) 1200 (g1, g2)).2)))] → va_S A s.heap H locs → lv_has ls 2 [(0, .ref (md 0))] → W p l e (headSpec (kWs yM_keep cM_keep 2 none) { frames := 0, cells := 0, slots := 0, locals := 0 }).room s m args below meth c H locs 0 0 Q (F0 m 98 ls [])) :
    ∀ (n k : Nat), k + n = 1200 → ∀ (H : Heap) (locs : List Loc) (ls : Array Slot), va_P D vwCl [(md 0, .inr (5, [.int th, .int (nI N), .ref (md 1), .ref (md 2), .ref (md 3), .ref (md 4), .ref (md 5), .ref (md 6), .ref (md 7), .ref (md 8), .ref (md 9), .ref (md 10), .ref (md 11), .ref (md 12), .ref (md 13), .ref (md 14), .int (nI 40), .ref (md 15), .ref (md 16), .ref (md 17), .int ib, .int ch, .int rs, .ref (md 18)])), (md 15, .inl (τ 0, 41, .inl mn)), (md 16, .inl (τ 0, 1230, .inl ((kItr (mKq) k (g1, g2)).1))), (md 17, .inl (τ 0, 1230, .inl ((kItr (mKq) k (g1, g2)).2)))] H → va_D A [(md 0, .inr (5, [.int th, .int (nI N), .ref (md 1), .ref (md 2), .ref (md 3), .ref (md 4), .ref (md 5), .ref (md 6), .ref (md 7), .ref (md 8), .ref (md 9), .ref (md 10), .ref (md 11), .ref (md 12), .ref (md 13), .ref (md 14), .int (nI 40), .ref (md 15), .ref (md 16), .ref (md 17), .int ib, .int ch, .int rs, .ref (md 18)])), (md 15, .inl (τ 0, 41, .inl mn)), (md 16, .inl (τ 0, 1230, .inl ((kItr (mKq) k (g1, g2)).1))), (md 17, .inl (τ 0, 1230, .inl ((kItr (mKq) k (g1, g2)).2)))] → va_S A s.heap H locs → lv_has ls 2 [(0, .ref (md 0)), (1, .int (nI k))] → W p l e (headSpec (kWs yM_keep cM_keep 2 none) { frames := 0, cells := 0, slots := 0, locals := 0 }).room s m args below meth c H locs 0 0 Q (F0 m 55 ls []) := by
  intro n
  induction n with
  | zero =>
    intro k hk H locs ls hP hD hS hl
    have hkN : 1200 = k := by omega
    subst hkN
    revert hP hD hl
    generalize hst : (kItr (mKq) 1200 (g1, g2)) = st
    intro hP hD hl
    obtain ⟨qp, qe⟩ := st
    have hP : va_P D vwCl [(md 0, .inr (5, [.int th, .int (nI N), .ref (md 1), .ref (md 2), .ref (md 3), .ref (md 4), .ref (md 5), .ref (md 6), .ref (md 7), .ref (md 8), .ref (md 9), .ref (md 10), .ref (md 11), .ref (md 12), .ref (md 13), .ref (md 14), .int (nI 40), .ref (md 15), .ref (md 16), .ref (md 17), .int ib, .int ch, .int rs, .ref (md 18)])), (md 15, .inl (τ 0, 41, .inl mn)), (md 16, .inl (τ 0, 1230, .inl qp)), (md 17, .inl (τ 0, 1230, .inl qe))] H := hP
    have hD : va_D A [(md 0, .inr (5, [.int th, .int (nI N), .ref (md 1), .ref (md 2), .ref (md 3), .ref (md 4), .ref (md 5), .ref (md 6), .ref (md 7), .ref (md 8), .ref (md 9), .ref (md 10), .ref (md 11), .ref (md 12), .ref (md 13), .ref (md 14), .int (nI 40), .ref (md 15), .ref (md 16), .ref (md 17), .int ib, .int ch, .int rs, .ref (md 18)])), (md 15, .inl (τ 0, 41, .inl mn)), (md 16, .inl (τ 0, 1230, .inl qp)), (md 17, .inl (τ 0, 1230, .inl qe))] := hD
    have hl : lv_has ls 2 [(0, .ref (md 0)), (1, .int (nI 1200))] := hl
    refine lv_iload_n hx hb dM_keep_55 rfl (lv_at hl 1 rfl) ?_
    refine lv_sipush (v := 1200) hx hb dM_keep_56 (by decide) ?_
    refine lv_icmp_ge (tgt := 98) hx hb dM_keep_59 (by decide) (fun c_59 => ?_) (fun c_59 => absurd (by decide) c_59)
    exact kx H locs ls (by (try rw [hst]); exact hP) (by (try rw [hst]); exact hD) hS (by (try rw [hst]); exact lv_sub hl [0] rfl)
  | succ n ih =>
    intro k hk H locs ls hP hD hS hl
    have hkN : k < 1200 := by omega
    have ih := ih (k + 1) (by omega)
    rw [kItr_s] at ih
    revert hP hD hl ih
    generalize hst : (kItr (mKq) k (g1, g2)) = st
    intro hP hD hl ih
    obtain ⟨qp, qe⟩ := st
    have hP : va_P D vwCl [(md 0, .inr (5, [.int th, .int (nI N), .ref (md 1), .ref (md 2), .ref (md 3), .ref (md 4), .ref (md 5), .ref (md 6), .ref (md 7), .ref (md 8), .ref (md 9), .ref (md 10), .ref (md 11), .ref (md 12), .ref (md 13), .ref (md 14), .int (nI 40), .ref (md 15), .ref (md 16), .ref (md 17), .int ib, .int ch, .int rs, .ref (md 18)])), (md 15, .inl (τ 0, 41, .inl mn)), (md 16, .inl (τ 0, 1230, .inl qp)), (md 17, .inl (τ 0, 1230, .inl qe))] H := hP
    have hD : va_D A [(md 0, .inr (5, [.int th, .int (nI N), .ref (md 1), .ref (md 2), .ref (md 3), .ref (md 4), .ref (md 5), .ref (md 6), .ref (md 7), .ref (md 8), .ref (md 9), .ref (md 10), .ref (md 11), .ref (md 12), .ref (md 13), .ref (md 14), .int (nI 40), .ref (md 15), .ref (md 16), .ref (md 17), .int ib, .int ch, .int rs, .ref (md 18)])), (md 15, .inl (τ 0, 41, .inl mn)), (md 16, .inl (τ 0, 1230, .inl qp)), (md 17, .inl (τ 0, 1230, .inl qe))] := hD
    have hl : lv_has ls 2 [(0, .ref (md 0)), (1, .int (nI k))] := hl
    refine lv_iload_n hx hb dM_keep_55 rfl (lv_at hl 1 rfl) ?_
    refine lv_sipush (v := 1200) hx hb dM_keep_56 (by decide) ?_
    refine lv_icmp_ge (tgt := 98) hx hb dM_keep_59 (by decide) (fun c_59 => absurd c_59 (nI_ge (b := 1200) hkN (by decide))) (fun c_59 => ?_)
    refine lv_aload_n hx hb dM_keep_62 rfl (lv_at hl 0 rfl) ?_
    refine va_get (D := D) (ci := 5) (v := .ref (md 16)) (C := RM) (T := TM) (N := 24) hx hb hts iM hown hK hP 0 rfl rfl 18 (by decide) (hts _ w_358) (fun _ h9 => h9) rfl dM_keep_63 ?_
    refine lv_iload_n hx hb dM_keep_66 rfl (lv_at hl 1 rfl) ?_
    refine lv_aload_n hx hb dM_keep_67 rfl (lv_at hl 0 rfl) ?_
    refine va_get (D := D) (ci := 5) (v := .ref (md 16)) (C := RM) (T := TM) (N := 24) hx hb hts iM hown hK hP 0 rfl rfl 18 (by decide) (hts _ w_358) (fun _ h9 => h9) rfl dM_keep_68 ?_
    refine lv_iload_n hx hb dM_keep_71 rfl (lv_at hl 1 rfl) ?_
    refine lv_bipush (v := 30) hx hb dM_keep_72 (by decide) ?_
    refine lv_iadd hx hb dM_keep_74 ?_
    refine lv_topi (fun y_ ey_ => ?_)
    obtain rfl : y_ = nI (k + 30) := ey_.trans (nI_add _ 30)
    refine ka_iald (k := k + 30) hx hb hK hP 2 0 rfl rfl (by omega) (by omega) rfl dM_keep_75 ?_
    refine ka_iast (k := k) hx hb hK hP hD hS 2 0 rfl rfl (by omega) (by omega) rfl dM_keep_76 (fun H locs hP hD hS => ?_)
    have hP : va_P D vwCl [(md 0, .inr (5, [.int th, .int (nI N), .ref (md 1), .ref (md 2), .ref (md 3), .ref (md 4), .ref (md 5), .ref (md 6), .ref (md 7), .ref (md 8), .ref (md 9), .ref (md 10), .ref (md 11), .ref (md 12), .ref (md 13), .ref (md 14), .int (nI 40), .ref (md 15), .ref (md 16), .ref (md 17), .int ib, .int ch, .int rs, .ref (md 18)])), (md 15, .inl (τ 0, 41, .inl mn)), (md 16, .inl (τ 0, 1230, .inl (upd qp k (qp (k + 30))))), (md 17, .inl (τ 0, 1230, .inl qe))] H := hP
    have hD : va_D A [(md 0, .inr (5, [.int th, .int (nI N), .ref (md 1), .ref (md 2), .ref (md 3), .ref (md 4), .ref (md 5), .ref (md 6), .ref (md 7), .ref (md 8), .ref (md 9), .ref (md 10), .ref (md 11), .ref (md 12), .ref (md 13), .ref (md 14), .int (nI 40), .ref (md 15), .ref (md 16), .ref (md 17), .int ib, .int ch, .int rs, .ref (md 18)])), (md 15, .inl (τ 0, 41, .inl mn)), (md 16, .inl (τ 0, 1230, .inl (upd qp k (qp (k + 30))))), (md 17, .inl (τ 0, 1230, .inl qe))] := hD
    refine lv_aload_n hx hb dM_keep_77 rfl (lv_at hl 0 rfl) ?_
    refine va_get (D := D) (ci := 5) (v := .ref (md 17)) (C := RM) (T := TM) (N := 24) hx hb hts iM hown hK hP 0 rfl rfl 19 (by decide) (hts _ w_359) (fun _ h9 => h9) rfl dM_keep_78 ?_
    refine lv_iload_n hx hb dM_keep_81 rfl (lv_at hl 1 rfl) ?_
    refine lv_aload_n hx hb dM_keep_82 rfl (lv_at hl 0 rfl) ?_
    refine va_get (D := D) (ci := 5) (v := .ref (md 17)) (C := RM) (T := TM) (N := 24) hx hb hts iM hown hK hP 0 rfl rfl 19 (by decide) (hts _ w_359) (fun _ h9 => h9) rfl dM_keep_83 ?_
    refine lv_iload_n hx hb dM_keep_86 rfl (lv_at hl 1 rfl) ?_
    refine lv_bipush (v := 30) hx hb dM_keep_87 (by decide) ?_
    refine lv_iadd hx hb dM_keep_89 ?_
    refine lv_topi (fun y_ ey_ => ?_)
    obtain rfl : y_ = nI (k + 30) := ey_.trans (nI_add _ 30)
    refine ka_iald (k := k + 30) hx hb hK hP 3 0 rfl rfl (by omega) (by omega) rfl dM_keep_90 ?_
    refine ka_iast (k := k) hx hb hK hP hD hS 3 0 rfl rfl (by omega) (by omega) rfl dM_keep_91 (fun H locs hP hD hS => ?_)
    have hP : va_P D vwCl [(md 0, .inr (5, [.int th, .int (nI N), .ref (md 1), .ref (md 2), .ref (md 3), .ref (md 4), .ref (md 5), .ref (md 6), .ref (md 7), .ref (md 8), .ref (md 9), .ref (md 10), .ref (md 11), .ref (md 12), .ref (md 13), .ref (md 14), .int (nI 40), .ref (md 15), .ref (md 16), .ref (md 17), .int ib, .int ch, .int rs, .ref (md 18)])), (md 15, .inl (τ 0, 41, .inl mn)), (md 16, .inl (τ 0, 1230, .inl (upd qp k (qp (k + 30))))), (md 17, .inl (τ 0, 1230, .inl (upd qe k (qe (k + 30)))))] H := hP
    have hD : va_D A [(md 0, .inr (5, [.int th, .int (nI N), .ref (md 1), .ref (md 2), .ref (md 3), .ref (md 4), .ref (md 5), .ref (md 6), .ref (md 7), .ref (md 8), .ref (md 9), .ref (md 10), .ref (md 11), .ref (md 12), .ref (md 13), .ref (md 14), .int (nI 40), .ref (md 15), .ref (md 16), .ref (md 17), .int ib, .int ch, .int rs, .ref (md 18)])), (md 15, .inl (τ 0, 41, .inl mn)), (md 16, .inl (τ 0, 1230, .inl (upd qp k (qp (k + 30))))), (md 17, .inl (τ 0, 1230, .inl (upd qe k (qe (k + 30)))))] := hD
    refine lv_iinc (v := nI (k + 1)) (lv' := [(1, .int (nI (k + 1))), (0, .ref (md 0))]) hx hb dM_keep_92 hl (k := 1) rfl (nI_1 _) (by decide) rfl (fun ls hl => ?_)
    refine lv_goto (tgt := 55) hx hb dM_keep_95 (by decide) ?_
    have e_ : (mKq) k (qp, qe) = (upd qp k (qp (k + 30)), upd qe k (qe (k + 30))) := by rfl
    (try rw [e_] at ih)
    exact ih H locs ls hP hD hS (lv_sub hl [1, 0] rfl)
set_option maxHeartbeats 4000000 in
set_option maxRecDepth 100000 in
theorem cm_keepx (l : Launch) (D : va_G) (τ : Nat → ClassId) (md : Nat → Nat) (th : Int32) (N : Nat) (K : Nat) (ib : Int32) (ch : Int32) (rs : Int32) (mn : Nat → Int32) (qp : Nat → Int32) (qe : Nat → Int32) (hKk : K ≤ 40) : kMv l D τ yM_keep (kWs yM_keep cM_keep 2 none) { frames := 0, cells := 0, slots := 0, locals := 0 } [.ref (md 0)] [(md 0, .inr (5, [.int th, .int (nI N), .ref (md 1), .ref (md 2), .ref (md 3), .ref (md 4), .ref (md 5), .ref (md 6), .ref (md 7), .ref (md 8), .ref (md 9), .ref (md 10), .ref (md 11), .ref (md 12), .ref (md 13), .ref (md 14), .int (nI K), .ref (md 15), .ref (md 16), .ref (md 17), .int ib, .int ch, .int rs, .ref (md 18)])), (md 15, .inl (τ 0, 41, .inl mn)), (md 16, .inl (τ 0, 1230, .inl qp)), (md 17, .inl (τ 0, 1230, .inl qe))] [(md 0, .inr (5, [.int th, .int (nI N), .ref (md 1), .ref (md 2), .ref (md 3), .ref (md 4), .ref (md 5), .ref (md 6), .ref (md 7), .ref (md 8), .ref (md 9), .ref (md 10), .ref (md 11), .ref (md 12), .ref (md 13), .ref (md 14), .int (nI (kKk K)), .ref (md 15), .ref (md 16), .ref (md 17), .int ib, .int ch, .int rs, .ref (md 18)])), (md 15, .inl (τ 0, 41, .inl (mKeepM K mn))), (md 16, .inl (τ 0, 1230, .inl ((mKeepQ K (qp, qe)).1))), (md 17, .inl (τ 0, 1230, .inl ((mKeepQ K (qp, qe)).2)))] := by
  intro sz
  refine Met.ofW (cc := cM_keep) (maxL := 2) (ret := none) (by decide) rfl ?_
  intro p e s m args below meth c s₁ B hml hv
  obtain ⟨rfl, hsz, hP, hK, hD0⟩ := hv
  have hx := B.exec
  have hb := B.bytes
  have hr := B.returns
  have hts := fun w (hw : w ∈ kTbl) => atoms_spec (ws := (kWs yM_keep cM_keep 2 none)) B.pre w (List.mem_cons_of_mem _ hw)
  have hown : s.vm.findClass RM = some m.cls := findClass_of_methodNamed B.named
  have hlocks := B.notSynchronized
  subst hsz
  have hD := hD0.self (sz := s.heap.size)
  generalize hAe : va_A [(md 0, .inr (5, [.int th, .int (nI N), .ref (md 1), .ref (md 2), .ref (md 3), .ref (md 4), .ref (md 5), .ref (md 6), .ref (md 7), .ref (md 8), .ref (md 9), .ref (md 10), .ref (md 11), .ref (md 12), .ref (md 13), .ref (md 14), .int (nI K), .ref (md 15), .ref (md 16), .ref (md 17), .int ib, .int ch, .int rs, .ref (md 18)])), (md 15, .inl (τ 0, 41, .inl mn)), (md 16, .inl (τ 0, 1230, .inl qp)), (md 17, .inl (τ 0, 1230, .inl qe))] s.heap.size = A at hD ⊢
  have hA : ∀ q : Nat, s.heap.size ≤ q → A q := fun q h => by rw [← hAe]; exact Or.inr h
  have hS : va_S A s.heap s.heap [] := va_S.rf
  have hP : va_P D vwCl [(md 0, .inr (5, [.int th, .int (nI N), .ref (md 1), .ref (md 2), .ref (md 3), .ref (md 4), .ref (md 5), .ref (md 6), .ref (md 7), .ref (md 8), .ref (md 9), .ref (md 10), .ref (md 11), .ref (md 12), .ref (md 13), .ref (md 14), .int (nI K), .ref (md 15), .ref (md 16), .ref (md 17), .int ib, .int ch, .int rs, .ref (md 18)])), (md 15, .inl (τ 0, 41, .inl mn)), (md 16, .inl (τ 0, 1230, .inl qp)), (md 17, .inl (τ 0, 1230, .inl qe))] s.heap := hP
  have hl := lv_entry ([.ref (md 0)]) (n := 2) (Nat.le_of_ble_eq_true rfl)
  rw [lg_entry_eq]
  generalize (lg_sl ([.ref (md 0)]) ++ List.replicate (2 - (lg_sl ([.ref (md 0)])).length) Slot.unset).toArray = ls at hl ⊢
  have hl : lv_has ls 2 [(0, .ref (md 0))] := hl
  skip
  refine lv_aload_n hx hb dM_keep_0 rfl (lv_at hl 0 rfl) ?_
  refine lv_dup hx hb dM_keep_1 rfl ?_
  refine va_get (D := D) (ci := 5) (v := .int (nI K)) (C := RM) (T := TM) (N := 24) hx hb hts iM hown hK hP 0 rfl rfl 16 (by decide) (hts _ w_356) (fun _ h9 => h9) rfl dM_keep_2 ?_
  refine lv_iconst (v := 1) hx hb dM_keep_5 (by decide) ?_
  refine lv_iadd hx hb dM_keep_6 ?_
  refine lv_topi (fun y_ ey_ => ?_)
  obtain rfl : y_ = nI (K + 1) := ey_.trans (nI_add _ 1)
  refine va_put (D := D) (ci := 5) (v := .int (nI (K + 1))) (ty := .int) (C := RM) (T := TM) (N := 24) hx hb hts iM tyM tyM_ok nmM hown hK hP hD hS 0 rfl rfl 16 (by decide) (hts _ w_356) (fun _ h9 => h9) rfl (by decide +kernel) rfl rfl (Nat.le_of_ble_eq_true rfl) dM_keep_7 (fun H locs hP hD hS => ?_)
  have hP : va_P D vwCl [(md 0, .inr (5, [.int th, .int (nI N), .ref (md 1), .ref (md 2), .ref (md 3), .ref (md 4), .ref (md 5), .ref (md 6), .ref (md 7), .ref (md 8), .ref (md 9), .ref (md 10), .ref (md 11), .ref (md 12), .ref (md 13), .ref (md 14), .int (nI (K + 1)), .ref (md 15), .ref (md 16), .ref (md 17), .int ib, .int ch, .int rs, .ref (md 18)])), (md 15, .inl (τ 0, 41, .inl mn)), (md 16, .inl (τ 0, 1230, .inl qp)), (md 17, .inl (τ 0, 1230, .inl qe))] H := hP
  have hD : va_D A [(md 0, .inr (5, [.int th, .int (nI N), .ref (md 1), .ref (md 2), .ref (md 3), .ref (md 4), .ref (md 5), .ref (md 6), .ref (md 7), .ref (md 8), .ref (md 9), .ref (md 10), .ref (md 11), .ref (md 12), .ref (md 13), .ref (md 14), .int (nI (K + 1)), .ref (md 15), .ref (md 16), .ref (md 17), .int ib, .int ch, .int rs, .ref (md 18)])), (md 15, .inl (τ 0, 41, .inl mn)), (md 16, .inl (τ 0, 1230, .inl qp)), (md 17, .inl (τ 0, 1230, .inl qe))] := hD
  refine lv_aload_n hx hb dM_keep_10 rfl (lv_at hl 0 rfl) ?_
  refine va_get (D := D) (ci := 5) (v := .int (nI (K + 1))) (C := RM) (T := TM) (N := 24) hx hb hts iM hown hK hP 0 rfl rfl 16 (by decide) (hts _ w_356) (fun _ h9 => h9) rfl dM_keep_11 ?_
  refine lv_bipush (v := 40) hx hb dM_keep_14 (by decide) ?_
  refine lv_icmp_le (tgt := 98) hx hb dM_keep_16 (by decide) (fun c_16 => ?_) (fun c_16 => ?_)
  · skip
    have hK40 : K < 40 := by have := (nI_leI (a := K + 1) (b := 40) (by omega) (by decide)).mp c_16; omega
    have e1_ : kKk K = K + 1 := if_pos hK40
    have e2_ : mKeepM K mn = mn := if_pos hK40
    have e3_ : mKeepQ K (qp, qe) = (qp, qe) := if_pos hK40
    exact k_vret hx hb hr hlocks hK hS (by rw [e1_, e2_, e3_]; exact hP) (by rw [e1_, e2_, e3_]; exact hD) dM_keep_98
  · skip
    have hK40 : K = 40 := by have := mt (nI_leI (a := K + 1) (b := 40) (by omega) (by decide)).mpr c_16; omega
    subst hK40
    refine lv_aload_n hx hb dM_keep_19 rfl (lv_at hl 0 rfl) ?_
    refine lv_bipush (v := 40) hx hb dM_keep_20 (by decide) ?_
    refine va_put (D := D) (ci := 5) (v := .int 40) (ty := .int) (C := RM) (T := TM) (N := 24) hx hb hts iM tyM tyM_ok nmM hown hK hP hD hS 0 rfl rfl 16 (by decide) (hts _ w_356) (fun _ h9 => h9) rfl (by decide +kernel) rfl rfl (Nat.le_of_ble_eq_true rfl) dM_keep_22 (fun H locs hP hD hS => ?_)
    have hP : va_P D vwCl [(md 0, .inr (5, [.int th, .int (nI N), .ref (md 1), .ref (md 2), .ref (md 3), .ref (md 4), .ref (md 5), .ref (md 6), .ref (md 7), .ref (md 8), .ref (md 9), .ref (md 10), .ref (md 11), .ref (md 12), .ref (md 13), .ref (md 14), .int 40, .ref (md 15), .ref (md 16), .ref (md 17), .int ib, .int ch, .int rs, .ref (md 18)])), (md 15, .inl (τ 0, 41, .inl mn)), (md 16, .inl (τ 0, 1230, .inl qp)), (md 17, .inl (τ 0, 1230, .inl qe))] H := hP
    have hD : va_D A [(md 0, .inr (5, [.int th, .int (nI N), .ref (md 1), .ref (md 2), .ref (md 3), .ref (md 4), .ref (md 5), .ref (md 6), .ref (md 7), .ref (md 8), .ref (md 9), .ref (md 10), .ref (md 11), .ref (md 12), .ref (md 13), .ref (md 14), .int 40, .ref (md 15), .ref (md 16), .ref (md 17), .int ib, .int ch, .int rs, .ref (md 18)])), (md 15, .inl (τ 0, 41, .inl mn)), (md 16, .inl (τ 0, 1230, .inl qp)), (md 17, .inl (τ 0, 1230, .inl qe))] := hD
    refine lv_iconst (v := 0) hx hb dM_keep_25 (by decide) ?_
    refine lv_istore_n (lv' := [(1, .int 0), (0, .ref (md 0))]) hx hb dM_keep_26 rfl hl (by decide) rfl (fun ls hl => ?_)
    refine lm_k1 hx hb hml hown hts hK hA md th N ib ch rs qp qe mn  (fun H locs ls hP hD hS hl => ?_) 40 0 (by omega) _ _ ls hP hD hS (lv_sub hl [1, 0] rfl)
    refine lv_iconst (v := 0) hx hb dM_keep_53 (by decide) ?_
    refine lv_istore_n (lv' := [(1, .int 0), (0, .ref (md 0))]) hx hb dM_keep_54 rfl hl (by decide) rfl (fun ls hl => ?_)
    refine lm_k2 hx hb hml hown hts hK hA md th N ib ch rs (kItr (mKm) (40) (mn)) qp qe  (fun H locs ls hP hD hS hl => ?_) 1200 0 (by omega) _ _ ls hP hD hS (lv_sub hl [1, 0] rfl)
    have e1_ : kKk 40 = 40 := by decide
    have e2_ : mKeepM 40 mn = kItr mKm 40 mn := if_neg (by decide)
    have e3_ : mKeepQ 40 (qp, qe) = kItr mKq 1200 (qp, qe) := if_neg (by decide)
    exact k_vret hx hb hr hlocks hK hS (by rw [e1_, e2_, e3_]; exact hP) (by rw [e1_, e2_, e3_]; exact hD) dM_keep_98
set_option maxHeartbeats 4000000 in
set_option maxRecDepth 100000 in
theorem cm_no (l : Launch) (D : va_G) (τ : Nat → ClassId) (md : Nat → Nat) (th : Int32) (N : Nat) (K : Nat) (ib : Int32) (ch : Int32) (rs : Int32) (v : Int32)  : kMi l D τ yM_noNode (kWs yM_noNode cM_noNode 2 (some .boolean)) { frames := 1, cells := 0, slots := 0, locals := 22 } [.ref (md 0), .int v] [(md 0, .inr (5, [.int th, .int (nI N), .ref (md 1), .ref (md 2), .ref (md 3), .ref (md 4), .ref (md 5), .ref (md 6), .ref (md 7), .ref (md 8), .ref (md 9), .ref (md 10), .ref (md 11), .ref (md 12), .ref (md 13), .ref (md 14), .int (nI K), .ref (md 15), .ref (md 16), .ref (md 17), .int ib, .int ch, .int rs, .ref (md 18)]))] (kB (¬ mIn v 0 (nI N - 1))) [(md 0, .inr (5, [.int th, .int (nI N), .ref (md 1), .ref (md 2), .ref (md 3), .ref (md 4), .ref (md 5), .ref (md 6), .ref (md 7), .ref (md 8), .ref (md 9), .ref (md 10), .ref (md 11), .ref (md 12), .ref (md 13), .ref (md 14), .int (nI K), .ref (md 15), .ref (md 16), .ref (md 17), .int ib, .int ch, .int rs, .ref (md 18)]))] := by
  intro sz
  refine Met.ofW (cc := cM_noNode) (maxL := 2) (ret := (some .boolean)) (by decide) rfl ?_
  intro p e s m args below meth c s₁ B hml hv
  obtain ⟨rfl, hsz, hP, hK, hD0⟩ := hv
  have hx := B.exec
  have hb := B.bytes
  have hr := B.returns
  have hts := fun w (hw : w ∈ kTbl) => atoms_spec (ws := (kWs yM_noNode cM_noNode 2 (some .boolean))) B.pre w (List.mem_cons_of_mem _ hw)
  have hown : s.vm.findClass RM = some m.cls := findClass_of_methodNamed B.named
  have hlocks := B.notSynchronized
  subst hsz
  have hD := hD0.self (sz := s.heap.size)
  generalize hAe : va_A [(md 0, .inr (5, [.int th, .int (nI N), .ref (md 1), .ref (md 2), .ref (md 3), .ref (md 4), .ref (md 5), .ref (md 6), .ref (md 7), .ref (md 8), .ref (md 9), .ref (md 10), .ref (md 11), .ref (md 12), .ref (md 13), .ref (md 14), .int (nI K), .ref (md 15), .ref (md 16), .ref (md 17), .int ib, .int ch, .int rs, .ref (md 18)]))] s.heap.size = A at hD ⊢
  have hA : ∀ q : Nat, s.heap.size ≤ q → A q := fun q h => by rw [← hAe]; exact Or.inr h
  have hS : va_S A s.heap s.heap [] := va_S.rf
  have hP : va_P D vwCl [(md 0, .inr (5, [.int th, .int (nI N), .ref (md 1), .ref (md 2), .ref (md 3), .ref (md 4), .ref (md 5), .ref (md 6), .ref (md 7), .ref (md 8), .ref (md 9), .ref (md 10), .ref (md 11), .ref (md 12), .ref (md 13), .ref (md 14), .int (nI K), .ref (md 15), .ref (md 16), .ref (md 17), .int ib, .int ch, .int rs, .ref (md 18)]))] s.heap := hP
  have hl := lv_entry ([.ref (md 0), .int v]) (n := 2) (Nat.le_of_ble_eq_true rfl)
  rw [lg_entry_eq]
  generalize (lg_sl ([.ref (md 0), .int v]) ++ List.replicate (2 - (lg_sl ([.ref (md 0), .int v])).length) Slot.unset).toArray = ls at hl ⊢
  have hl : lv_has ls 2 [(0, .ref (md 0)), (1, .int v)] := hl
  skip
  refine lv_iload_n hx hb dM_noNode_0 rfl (lv_at hl 1 rfl) ?_
  refine lv_iconst (v := 0) hx hb dM_noNode_1 (by decide) ?_
  refine lv_aload_n hx hb dM_noNode_2 rfl (lv_at hl 0 rfl) ?_
  refine va_get (D := D) (ci := 5) (v := .int (nI N)) (C := RM) (T := TM) (N := 24) hx hb hts iM hown hK hP 0 rfl rfl 1 (by decide) (hts _ w_341) (fun _ h9 => h9) rfl dM_noNode_3 ?_
  refine lv_iconst (v := 1) hx hb dM_noNode_6 (by decide) ?_
  refine lv_isub hx hb dM_noNode_7 ?_
  refine kc_Si (As := [.int v, .int 0, .int ((nI N) - 1)]) (rest := []) (wr := [(md 0, .inr (5, [.int th, .int (nI N), .ref (md 1), .ref (md 2), .ref (md 3), .ref (md 4), .ref (md 5), .ref (md 6), .ref (md 7), .ref (md 8), .ref (md 9), .ref (md 10), .ref (md 11), .ref (md 12), .ref (md 13), .ref (md 14), .int (nI K), .ref (md 15), .ref (md 16), .ref (md 17), .int ib, .int ch, .int rs, .ref (md 18)]))]) (W1 := [(md 0, .inr (5, [.int th, .int (nI N), .ref (md 1), .ref (md 2), .ref (md 3), .ref (md 4), .ref (md 5), .ref (md 6), .ref (md 7), .ref (md 8), .ref (md 9), .ref (md 10), .ref (md 11), .ref (md 12), .ref (md 13), .ref (md 14), .int (nI K), .ref (md 15), .ref (md 16), .ref (md 17), .int ib, .int ch, .int rs, .ref (md 18)]))]) ⟨hx, hb, hml, hown, hts⟩ (cm_in l D τ v 0 ((nI N) - 1) ) (kcwS hts qM_in w_423 rfl rfl ⟨Nat.le_of_ble_eq_true rfl, Nat.le_of_ble_eq_true rfl⟩) hK hP hD hS hA [] [0] [0] rfl rfl (by decide) (by decide) (by decide) rfl (by decide) hl.1 rfl rfl (Nat.le_of_ble_eq_true rfl) ⟨Nat.zero_le _, Nat.zero_le _⟩ dM_noNode_8 (fun H locs hP hD hS => ?_)
  refine lv_if_ne (tgt := 18) hx hb dM_noNode_11 (by decide) (fun c_11 => ?_) (fun c_11 => ?_)
  · skip
    have c_11 := kB_1.mp c_11
    refine lv_iconst (v := 0) hx hb dM_noNode_18 (by decide) ?_
    exact k_zret hx hb hr hlocks hK hS rfl ((kB_f (by simp [c_11])).symm) hP hD dM_noNode_19
  · skip
    have c_11 := kB_0.mp c_11
    refine lv_iconst (v := 1) hx hb dM_noNode_14 (by decide) ?_
    refine lv_goto (tgt := 19) hx hb dM_noNode_15 (by decide) ?_
    exact k_zret hx hb hr hlocks hK hS rfl ((kB_t (by simp [c_11])).symm) hP hD dM_noNode_19
set_option maxHeartbeats 4000000 in
set_option maxRecDepth 100000 in
theorem cm_bad (l : Launch) (D : va_G) (τ : Nat → ClassId) (md : Nat → Nat) (th : Int32) (N : Nat) (K : Nat) (ib : Int32) (ch : Int32) (rs : Int32) (k : Int32) (v : Int32)  : kMi l D τ yM_isBad (kWs yM_isBad cM_isBad 3 (some .boolean)) { frames := 2, cells := 0, slots := 0, locals := 43 } [.ref (md 0), .int k, .int v] [(md 0, .inr (5, [.int th, .int (nI N), .ref (md 1), .ref (md 2), .ref (md 3), .ref (md 4), .ref (md 5), .ref (md 6), .ref (md 7), .ref (md 8), .ref (md 9), .ref (md 10), .ref (md 11), .ref (md 12), .ref (md 13), .ref (md 14), .int (nI K), .ref (md 15), .ref (md 16), .ref (md 17), .int ib, .int ch, .int rs, .ref (md 18)]))] (kB (¬ (mIn k 0 2 ∧ mIn v 0 (nI N - 1)))) [(md 0, .inr (5, [.int th, .int (nI N), .ref (md 1), .ref (md 2), .ref (md 3), .ref (md 4), .ref (md 5), .ref (md 6), .ref (md 7), .ref (md 8), .ref (md 9), .ref (md 10), .ref (md 11), .ref (md 12), .ref (md 13), .ref (md 14), .int (nI K), .ref (md 15), .ref (md 16), .ref (md 17), .int ib, .int ch, .int rs, .ref (md 18)]))] := by
  intro sz
  refine Met.ofW (cc := cM_isBad) (maxL := 3) (ret := (some .boolean)) (by decide) rfl ?_
  intro p e s m args below meth c s₁ B hml hv
  obtain ⟨rfl, hsz, hP, hK, hD0⟩ := hv
  have hx := B.exec
  have hb := B.bytes
  have hr := B.returns
  have hts := fun w (hw : w ∈ kTbl) => atoms_spec (ws := (kWs yM_isBad cM_isBad 3 (some .boolean))) B.pre w (List.mem_cons_of_mem _ hw)
  have hown : s.vm.findClass RM = some m.cls := findClass_of_methodNamed B.named
  have hlocks := B.notSynchronized
  subst hsz
  have hD := hD0.self (sz := s.heap.size)
  generalize hAe : va_A [(md 0, .inr (5, [.int th, .int (nI N), .ref (md 1), .ref (md 2), .ref (md 3), .ref (md 4), .ref (md 5), .ref (md 6), .ref (md 7), .ref (md 8), .ref (md 9), .ref (md 10), .ref (md 11), .ref (md 12), .ref (md 13), .ref (md 14), .int (nI K), .ref (md 15), .ref (md 16), .ref (md 17), .int ib, .int ch, .int rs, .ref (md 18)]))] s.heap.size = A at hD ⊢
  have hA : ∀ q : Nat, s.heap.size ≤ q → A q := fun q h => by rw [← hAe]; exact Or.inr h
  have hS : va_S A s.heap s.heap [] := va_S.rf
  have hP : va_P D vwCl [(md 0, .inr (5, [.int th, .int (nI N), .ref (md 1), .ref (md 2), .ref (md 3), .ref (md 4), .ref (md 5), .ref (md 6), .ref (md 7), .ref (md 8), .ref (md 9), .ref (md 10), .ref (md 11), .ref (md 12), .ref (md 13), .ref (md 14), .int (nI K), .ref (md 15), .ref (md 16), .ref (md 17), .int ib, .int ch, .int rs, .ref (md 18)]))] s.heap := hP
  have hl := lv_entry ([.ref (md 0), .int k, .int v]) (n := 3) (Nat.le_of_ble_eq_true rfl)
  rw [lg_entry_eq]
  generalize (lg_sl ([.ref (md 0), .int k, .int v]) ++ List.replicate (3 - (lg_sl ([.ref (md 0), .int k, .int v])).length) Slot.unset).toArray = ls at hl ⊢
  have hl : lv_has ls 3 [(0, .ref (md 0)), (1, .int k), (2, .int v)] := hl
  skip
  refine lv_iload_n hx hb dM_isBad_0 rfl (lv_at hl 1 rfl) ?_
  refine lv_iconst (v := 0) hx hb dM_isBad_1 (by decide) ?_
  refine lv_iconst (v := 2) hx hb dM_isBad_2 (by decide) ?_
  refine kc_Si (As := [.int k, .int 0, .int 2]) (rest := []) (wr := [(md 0, .inr (5, [.int th, .int (nI N), .ref (md 1), .ref (md 2), .ref (md 3), .ref (md 4), .ref (md 5), .ref (md 6), .ref (md 7), .ref (md 8), .ref (md 9), .ref (md 10), .ref (md 11), .ref (md 12), .ref (md 13), .ref (md 14), .int (nI K), .ref (md 15), .ref (md 16), .ref (md 17), .int ib, .int ch, .int rs, .ref (md 18)]))]) (W1 := [(md 0, .inr (5, [.int th, .int (nI N), .ref (md 1), .ref (md 2), .ref (md 3), .ref (md 4), .ref (md 5), .ref (md 6), .ref (md 7), .ref (md 8), .ref (md 9), .ref (md 10), .ref (md 11), .ref (md 12), .ref (md 13), .ref (md 14), .int (nI K), .ref (md 15), .ref (md 16), .ref (md 17), .int ib, .int ch, .int rs, .ref (md 18)]))]) ⟨hx, hb, hml, hown, hts⟩ (cm_in l D τ k 0 2 ) (kcwS hts qM_in w_423 rfl rfl ⟨Nat.le_of_ble_eq_true rfl, Nat.le_of_ble_eq_true rfl⟩) hK hP hD hS hA [] [0] [0] rfl rfl (by decide) (by decide) (by decide) rfl (by decide) hl.1 rfl rfl (Nat.le_of_ble_eq_true rfl) ⟨Nat.zero_le _, Nat.zero_le _⟩ dM_isBad_3 (fun H locs hP hD hS => ?_)
  refine lv_if_eq (tgt := 17) hx hb dM_isBad_6 (by decide) (fun c_6 => ?_) (fun c_6 => ?_)
  · skip
    have c_6 := kB_0.mp c_6
    refine lv_iconst (v := 1) hx hb dM_isBad_17 (by decide) ?_
    refine lv_goto (tgt := 22) hx hb dM_isBad_18 (by decide) ?_
    exact k_zret hx hb hr hlocks hK hS rfl ((kB_t (by simp [c_6])).symm) hP hD dM_isBad_22
  · skip
    have c_6 := kB_1.mp c_6
    refine lv_aload_n hx hb dM_isBad_9 rfl (lv_at hl 0 rfl) ?_
    refine lv_iload_n hx hb dM_isBad_10 rfl (lv_at hl 2 rfl) ?_
    refine kc_Vi (As := [.int v]) (rest := []) (wr := []) (W1 := [(md 0, .inr (5, [.int th, .int (nI N), .ref (md 1), .ref (md 2), .ref (md 3), .ref (md 4), .ref (md 5), .ref (md 6), .ref (md 7), .ref (md 8), .ref (md 9), .ref (md 10), .ref (md 11), .ref (md 12), .ref (md 13), .ref (md 14), .int (nI K), .ref (md 15), .ref (md 16), .ref (md 17), .int ib, .int ch, .int rs, .ref (md 18)]))]) ⟨hx, hb, hml, hown, hts⟩ (cm_no l D τ md th N K ib ch rs v ) (kcwV hts qM_noNode w_431 rfl rfl ⟨Nat.le_of_ble_eq_true rfl, Nat.le_of_ble_eq_true rfl⟩) hK hP hD hS hA [0] [] [0] rfl rfl (by decide) (by decide) (by decide) rfl rfl rfl (by decide) hl.1 rfl rfl (Nat.le_of_ble_eq_true rfl) ⟨Nat.zero_le _, Nat.zero_le _⟩ dM_isBad_11 (fun H locs hP hD hS => ?_)
    refine lv_if_eq (tgt := 21) hx hb dM_isBad_14 (by decide) (fun c_14 => ?_) (fun c_14 => ?_)
    · skip
      have c_14 := kB_0.mp c_14
      refine lv_iconst (v := 0) hx hb dM_isBad_21 (by decide) ?_
      exact k_zret hx hb hr hlocks hK hS rfl ((kB_f (by simp [c_6, c_14])).symm) hP hD dM_isBad_22
    · skip
      have c_14 := kB_1.mp c_14
      refine lv_iconst (v := 1) hx hb dM_isBad_17 (by decide) ?_
      refine lv_goto (tgt := 22) hx hb dM_isBad_18 (by decide) ?_
      exact k_zret hx hb hr hlocks hK hS rfl ((kB_t (by simp [c_6, c_14])).symm) hP hD dM_isBad_22
