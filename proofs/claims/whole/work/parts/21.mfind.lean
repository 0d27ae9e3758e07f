set_option maxHeartbeats 4000000 in
set_option maxRecDepth 100000 in
theorem cm_in (l : Launch) (D : va_G) (τ : Nat → ClassId) (x : Int32) (lo : Int32) (hi : Int32)  : kMi l D τ yM_in (kWs yM_in cM_in 3 (some .boolean)) { frames := 0, cells := 0, slots := 0, locals := 0 } [.int x, .int lo, .int hi] [] (kB (mIn x lo hi)) [] := by
  intro sz
  refine Met.ofW (cc := cM_in) (maxL := 3) (ret := (some .boolean)) (by decide) rfl ?_
  intro p e s m args below meth c s₁ B hml hv
  obtain ⟨rfl, hsz, hP, hK, hD0⟩ := hv
  have hx := B.exec
  have hb := B.bytes
  have hr := B.returns
  have hts := fun w (hw : w ∈ kTbl) => atoms_spec (ws := (kWs yM_in cM_in 3 (some .boolean))) B.pre w (List.mem_cons_of_mem _ hw)
  have hown : s.vm.findClass RM = some m.cls := findClass_of_methodNamed B.named
  have hlocks := B.notSynchronized
  subst hsz
  have hD := hD0.self (sz := s.heap.size)
  generalize hAe : va_A [] s.heap.size = A at hD ⊢
  have hA : ∀ q : Nat, s.heap.size ≤ q → A q := fun q h => by rw [← hAe]; exact Or.inr h
  have hS : va_S A s.heap s.heap [] := va_S.rf
  have hP : va_P D vwCl [] s.heap := hP
  have hl := lv_entry ([.int x, .int lo, .int hi]) (n := 3) (Nat.le_of_ble_eq_true rfl)
  rw [lg_entry_eq]
  generalize (lg_sl ([.int x, .int lo, .int hi]) ++ List.replicate (3 - (lg_sl ([.int x, .int lo, .int hi])).length) Slot.unset).toArray = ls at hl ⊢
  have hl : lv_has ls 3 [(0, .int x), (1, .int lo), (2, .int hi)] := hl
  skip
  refine lv_iload_n hx hb dM_in_0 rfl (lv_at hl 0 rfl) ?_
  refine lv_iload_n hx hb dM_in_1 rfl (lv_at hl 1 rfl) ?_
  refine lv_icmp_lt (tgt := 14) hx hb dM_in_2 (by decide) (fun c_2 => ?_) (fun c_2 => ?_)
  · skip
    refine lv_iconst (v := 0) hx hb dM_in_14 (by decide) ?_
    exact k_zret hx hb hr hlocks hK hS rfl ((kB_f (by simp [mIn, c_2, Int32.not_le.mpr c_2])).symm) hP hD dM_in_15
  · skip
    refine lv_iload_n hx hb dM_in_5 rfl (lv_at hl 0 rfl) ?_
    refine lv_iload_n hx hb dM_in_6 rfl (lv_at hl 2 rfl) ?_
    refine lv_icmp_gt (tgt := 14) hx hb dM_in_7 (by decide) (fun c_7 => ?_) (fun c_7 => ?_)
    · skip
      refine lv_iconst (v := 0) hx hb dM_in_14 (by decide) ?_
      exact k_zret hx hb hr hlocks hK hS rfl ((kB_f (by simp [mIn, c_2, Int32.not_lt.mp c_2, c_7, Int32.not_le.mpr c_7])).symm) hP hD dM_in_15
    · skip
      refine lv_iconst (v := 1) hx hb dM_in_10 (by decide) ?_
      refine lv_goto (tgt := 15) hx hb dM_in_11 (by decide) ?_
      exact k_zret hx hb hr hlocks hK hS rfl ((kB_t (by simp [mIn, c_2, Int32.not_lt.mp c_2, c_7, Int32.not_lt.mp c_7])).symm) hP hD dM_in_15
set_option maxHeartbeats 4000000 in
set_option maxRecDepth 100000 in
theorem lm_3 {p : Program} {l : Launch} {e : Env} {s : State} {m : MethodId} {args : Array Value} {below : List Frame} {meth : Method} {c : Code} {Q : State → Prop} {D : va_G} {τ : Nat → ClassId} {A : Nat → Prop} (hx : p.tables.exec = Jvm.exec) (hb : c.code = cM_find) (hml : c.maxLocals = 10) (hown : s.vm.findClass RM = some m.cls) (hts : ∀ w ∈ kTbl, w.before args s = true) (hK : va_K D vwCl (kTys τ) s) (hA : ∀ q : Nat, s.heap.size ≤ q → A q) (md : Nat → Nat) (th : Int32) (N : Nat) (K : Nat) (ib : Int32) (ch : Int32) (rs : Int32) (xc : Nat → Int32) (lst : Nat → Int32) (fl : Nat → Int32) (fh : Nat → Int32) (fp : Nat → Int32) (fr : Nat) (ka : Int32) (kb : Int32) (kw : Int32) (h : Nat) (v : Nat) (g : Int32) (hN : N ≤ 24) (hh : 0 < h) (hhN : h < N) (hv : v < N)
    (kx : ∀ (H : Heap) (locs : List Loc) (ls : Array Slot), va_P D vwCl [(md 0, .inr (5, [.int th, .int (nI N), .ref (md 1), .ref (md 2), .ref (md 3), .ref (md 4), .ref (md 5), .ref (md 6), .ref (md 7), .ref (md 8), .ref (md 9), .ref (md 10), .ref (md 11), .ref (md 12), .ref (md 13), .ref (md 14), .int (nI K), .ref (md 15), .ref (md 16), .ref (md 17), .int ib, .int ch, .int rs, .ref (md 18)])), (md 1, .inl (τ 0, 576, .inl xc)), (md 11, .inl (τ 0, 600, .inl lst)), (md 12, .inl (τ 0, 24, .inl fl)), (md 13, .inl (τ 0, 24, .inl fh)), (md 14, .inl (τ 0, 24, .inl fp))] H → va_D A [(md 0, .inr (5, [.int th, .int (nI N), .ref (md 1), .ref (md 2), .ref (md 3), .ref (md 4), .ref (md 5), .ref (md 6), .ref (md 7), .ref (md 8), .ref (md 9), .ref (md 10), .ref (md 11), .ref (md 12), .ref (md 13), .ref (md 14), .int (nI K), .ref (md 15), .ref (md 16), .ref (md 17), .int ib, .int ch, .int rs, .ref (md 18)])), (md 1, .inl (τ 0, 576, .inl xc)), (md 11, .inl (τ 0, 600, .inl lst)), (md 12, .inl (τ 0, 24, .inl fl)), (md 13, .inl (τ 0, 24, .inl fh)), (md 14, .inl (τ 0, 24, .inl fp))] → va_S A s.heap H locs → lv_has ls 10 [(0, .ref (md 0)), (1, .int (nI fr)), (2, .int ka), (3, .int kb), (4, .int kw), (5, .int (nI h)), (6, .int (nI v)), (7, .int (kItr (mB3 xc lst h v) N (g)))] → W p l e (headSpec (kWs yM_find cM_find 10 none) { frames := 0, cells := 0, slots := 0, locals := 0 }).room s m args below meth c H locs 0 0 Q (F0 m 186 ls [])) :
    ∀ (n k : Nat), k + n = N → ∀ (H : Heap) (locs : List Loc) (ls : Array Slot), va_P D vwCl [(md 0, .inr (5, [.int th, .int (nI N), .ref (md 1), .ref (md 2), .ref (md 3), .ref (md 4), .ref (md 5), .ref (md 6), .ref (md 7), .ref (md 8), .ref (md 9), .ref (md 10), .ref (md 11), .ref (md 12), .ref (md 13), .ref (md 14), .int (nI K), .ref (md 15), .ref (md 16), .ref (md 17), .int ib, .int ch, .int rs, .ref (md 18)])), (md 1, .inl (τ 0, 576, .inl xc)), (md 11, .inl (τ 0, 600, .inl lst)), (md 12, .inl (τ 0, 24, .inl fl)), (md 13, .inl (τ 0, 24, .inl fh)), (md 14, .inl (τ 0, 24, .inl fp))] H → va_D A [(md 0, .inr (5, [.int th, .int (nI N), .ref (md 1), .ref (md 2), .ref (md 3), .ref (md 4), .ref (md 5), .ref (md 6), .ref (md 7), .ref (md 8), .ref (md 9), .ref (md 10), .ref (md 11), .ref (md 12), .ref (md 13), .ref (md 14), .int (nI K), .ref (md 15), .ref (md 16), .ref (md 17), .int ib, .int ch, .int rs, .ref (md 18)])), (md 1, .inl (τ 0, 576, .inl xc)), (md 11, .inl (τ 0, 600, .inl lst)), (md 12, .inl (τ 0, 24, .inl fl)), (md 13, .inl (τ 0, 24, .inl fh)), (md 14, .inl (τ 0, 24, .inl fp))] → va_S A s.heap H locs → lv_has ls 10 [(0, .ref (md 0)), (1, .int (nI fr)), (2, .int ka), (3, .int kb), (4, .int kw), (5, .int (nI h)), (6, .int (nI v)), (7, .int (kItr (mB3 xc lst h v) k (g))), (8, .int (nI k))] → W p l e (headSpec (kWs yM_find cM_find 10 none) { frames := 0, cells := 0, slots := 0, locals := 0 }).room s m args below meth c H locs 0 0 Q (F0 m 85 ls []) := by
  intro n
  induction n with
  | zero =>
    intro k hk H locs ls hP hD hS hl
    have hkN : N = k := by omega
    subst hkN
    revert hP hD hl
    generalize hst : (kItr (mB3 xc lst h v) N (g)) = bs
    intro hP hD hl
    have hP : va_P D vwCl [(md 0, .inr (5, [.int th, .int (nI N), .ref (md 1), .ref (md 2), .ref (md 3), .ref (md 4), .ref (md 5), .ref (md 6), .ref (md 7), .ref (md 8), .ref (md 9), .ref (md 10), .ref (md 11), .ref (md 12), .ref (md 13), .ref (md 14), .int (nI K), .ref (md 15), .ref (md 16), .ref (md 17), .int ib, .int ch, .int rs, .ref (md 18)])), (md 1, .inl (τ 0, 576, .inl xc)), (md 11, .inl (τ 0, 600, .inl lst)), (md 12, .inl (τ 0, 24, .inl fl)), (md 13, .inl (τ 0, 24, .inl fh)), (md 14, .inl (τ 0, 24, .inl fp))] H := hP
    have hD : va_D A [(md 0, .inr (5, [.int th, .int (nI N), .ref (md 1), .ref (md 2), .ref (md 3), .ref (md 4), .ref (md 5), .ref (md 6), .ref (md 7), .ref (md 8), .ref (md 9), .ref (md 10), .ref (md 11), .ref (md 12), .ref (md 13), .ref (md 14), .int (nI K), .ref (md 15), .ref (md 16), .ref (md 17), .int ib, .int ch, .int rs, .ref (md 18)])), (md 1, .inl (τ 0, 576, .inl xc)), (md 11, .inl (τ 0, 600, .inl lst)), (md 12, .inl (τ 0, 24, .inl fl)), (md 13, .inl (τ 0, 24, .inl fh)), (md 14, .inl (τ 0, 24, .inl fp))] := hD
    have hl : lv_has ls 10 [(0, .ref (md 0)), (1, .int (nI fr)), (2, .int ka), (3, .int kb), (4, .int kw), (5, .int (nI h)), (6, .int (nI v)), (7, .int bs), (8, .int (nI N))] := hl
    refine lv_iload hx hb dM_find_85 (lv_at hl 8 rfl) ?_
    refine lv_aload_n hx hb dM_find_87 rfl (lv_at hl 0 rfl) ?_
    refine va_get (D := D) (ci := 5) (v := .int (nI N)) (C := RM) (T := TM) (N := 24) hx hb hts iM hown hK hP 0 rfl rfl 1 (by decide) (hts _ w_341) (fun _ h9 => h9) rfl dM_find_88 ?_
    refine lv_icmp_ge (tgt := 186) hx hb dM_find_91 (by decide) (fun c_91 => ?_) (fun c_91 => absurd (nI_le (Nat.le_refl _) (by omega)) c_91)
    exact kx H locs ls (by (try rw [hst]); exact hP) (by (try rw [hst]); exact hD) hS (by (try rw [hst]); exact lv_sub hl [0, 1, 2, 3, 4, 5, 6, 7] rfl)
  | succ n ih =>
    intro k hk H locs ls hP hD hS hl
    have hkN : k < N := by omega
    have ih := ih (k + 1) (by omega)
    rw [kItr_s] at ih
    revert hP hD hl ih
    generalize hst : (kItr (mB3 xc lst h v) k (g)) = bs
    intro hP hD hl ih
    have hP : va_P D vwCl [(md 0, .inr (5, [.int th, .int (nI N), .ref (md 1), .ref (md 2), .ref (md 3), .ref (md 4), .ref (md 5), .ref (md 6), .ref (md 7), .ref (md 8), .ref (md 9), .ref (md 10), .ref (md 11), .ref (md 12), .ref (md 13), .ref (md 14), .int (nI K), .ref (md 15), .ref (md 16), .ref (md 17), .int ib, .int ch, .int rs, .ref (md 18)])), (md 1, .inl (τ 0, 576, .inl xc)), (md 11, .inl (τ 0, 600, .inl lst)), (md 12, .inl (τ 0, 24, .inl fl)), (md 13, .inl (τ 0, 24, .inl fh)), (md 14, .inl (τ 0, 24, .inl fp))] H := hP
    have hD : va_D A [(md 0, .inr (5, [.int th, .int (nI N), .ref (md 1), .ref (md 2), .ref (md 3), .ref (md 4), .ref (md 5), .ref (md 6), .ref (md 7), .ref (md 8), .ref (md 9), .ref (md 10), .ref (md 11), .ref (md 12), .ref (md 13), .ref (md 14), .int (nI K), .ref (md 15), .ref (md 16), .ref (md 17), .int ib, .int ch, .int rs, .ref (md 18)])), (md 1, .inl (τ 0, 576, .inl xc)), (md 11, .inl (τ 0, 600, .inl lst)), (md 12, .inl (τ 0, 24, .inl fl)), (md 13, .inl (τ 0, 24, .inl fh)), (md 14, .inl (τ 0, 24, .inl fp))] := hD
    have hl : lv_has ls 10 [(0, .ref (md 0)), (1, .int (nI fr)), (2, .int ka), (3, .int kb), (4, .int kw), (5, .int (nI h)), (6, .int (nI v)), (7, .int bs), (8, .int (nI k))] := hl
    refine lv_iload hx hb dM_find_85 (lv_at hl 8 rfl) ?_
    refine lv_aload_n hx hb dM_find_87 rfl (lv_at hl 0 rfl) ?_
    refine va_get (D := D) (ci := 5) (v := .int (nI N)) (C := RM) (T := TM) (N := 24) hx hb hts iM hown hK hP 0 rfl rfl 1 (by decide) (hts _ w_341) (fun _ h9 => h9) rfl dM_find_88 ?_
    refine lv_icmp_ge (tgt := 186) hx hb dM_find_91 (by decide) (fun c_91 => absurd c_91 (nI_ge hkN (by omega))) (fun c_91 => ?_)
    refine lv_iload hx hb dM_find_94 (lv_at hl 5 rfl) ?_
    refine lv_if_le (tgt := 186) hx hb dM_find_96 (by decide) (fun c_96 => absurd c_96 (nI_nle hh (by omega))) (fun c_96 => ?_)
    refine lv_aload_n hx hb dM_find_99 rfl (lv_at hl 0 rfl) ?_
    refine va_get (D := D) (ci := 5) (v := .ref (md 11)) (C := RM) (T := TM) (N := 24) hx hb hts iM hown hK hP 0 rfl rfl 12 (by decide) (hts _ w_352) (fun _ h9 => h9) rfl dM_find_100 ?_
    refine lv_bipush (v := 24) hx hb dM_find_103 (by decide) ?_
    refine lv_iload hx hb dM_find_105 (lv_at hl 5 rfl) ?_
    refine lv_iconst (v := 1) hx hb dM_find_107 (by decide) ?_
    refine lv_isub hx hb dM_find_108 ?_
    refine lv_topi (fun y_ ey_ => ?_)
    obtain rfl : y_ = nI (h - 1) := ey_.trans (pk_sub (b := 1) (by omega))
    refine lv_imul hx hb dM_find_109 ?_
    refine lv_topi (fun y_ ey_ => ?_)
    obtain rfl : y_ = nI ((h - 1) * 24) := ey_.trans (k_mulL 24 _ rfl)
    refine lv_iload hx hb dM_find_110 (lv_at hl 8 rfl) ?_
    refine lv_iadd hx hb dM_find_112 ?_
    refine lv_topi (fun y_ ey_ => ?_)
    obtain rfl : y_ = nI ((h - 1) * 24 + k) := ey_.trans (nI_add _ _)
    refine ka_iald (k := (h - 1) * 24 + k) hx hb hK hP 2 0 rfl rfl (by omega) (by omega) rfl dM_find_113 ?_
    refine lv_istore (lv' := [(9, .int (lst ((h - 1) * 24 + k))), (0, .ref (md 0)), (1, .int (nI fr)), (2, .int ka), (3, .int kb), (4, .int kw), (5, .int (nI h)), (6, .int (nI v)), (7, .int bs), (8, .int (nI k))]) hx hb dM_find_114 hl (by decide) rfl (fun ls hl => ?_)
    refine lv_iload hx hb dM_find_116 (lv_at hl 0 rfl) ?_
    refine lv_ldc (v := 1000000) hx hb hown (hts _ w_330) dM_find_118 ?_
    refine lv_icmp_eq (tgt := 180) hx hb dM_find_120 (by decide) (fun c_120 => ?_) (fun c_120 => ?_)
    · skip
      refine lv_iinc (v := nI (k + 1)) (lv' := [(8, .int (nI (k + 1))), (9, .int (lst ((h - 1) * 24 + k))), (0, .ref (md 0)), (1, .int (nI fr)), (2, .int ka), (3, .int kb), (4, .int kw), (5, .int (nI h)), (6, .int (nI v)), (7, .int bs)]) hx hb dM_find_180 hl (k := 9) rfl (nI_1 _) (by decide) rfl (fun ls hl => ?_)
      refine lv_goto (tgt := 85) hx hb dM_find_183 (by decide) ?_
      have e_ : (mB3 xc lst h v) k (bs) = (bs) := by unfold mB3; exact kIf_t c_120
      (try rw [e_] at ih)
      exact ih H locs ls hP hD hS (lv_sub hl [2, 3, 4, 5, 6, 7, 8, 9, 0] rfl)
    · skip
      refine lv_aload_n hx hb dM_find_123 rfl (lv_at hl 1 rfl) ?_
      refine va_get (D := D) (ci := 5) (v := .ref (md 1)) (C := RM) (T := TM) (N := 24) hx hb hts iM hown hK hP 0 rfl rfl 2 (by decide) (hts _ w_342) (fun _ h9 => h9) rfl dM_find_124 ?_
      refine lv_bipush (v := 24) hx hb dM_find_127 (by decide) ?_
      refine lv_iload hx hb dM_find_129 (lv_at hl 9 rfl) ?_
      refine lv_imul hx hb dM_find_131 ?_
      refine lv_topi (fun y_ ey_ => ?_)
      obtain rfl : y_ = nI (k * 24) := ey_.trans (k_mulL 24 _ rfl)
      refine lv_iload hx hb dM_find_132 (lv_at hl 7 rfl) ?_
      refine lv_iadd hx hb dM_find_134 ?_
      refine lv_topi (fun y_ ey_ => ?_)
      obtain rfl : y_ = nI (k * 24 + v) := ey_.trans (nI_add _ _)
      refine ka_iald (k := k * 24 + v) hx hb hK hP 1 0 rfl rfl (by omega) (by omega) rfl dM_find_135 ?_
      refine lv_ldc (v := 1000000) hx hb hown (hts _ w_330) dM_find_136 ?_
      refine lv_icmp_eq (tgt := 180) hx hb dM_find_138 (by decide) (fun c_138 => ?_) (fun c_138 => ?_)
      · skip
        refine lv_iinc (v := nI (k + 1)) (lv' := [(8, .int (nI (k + 1))), (9, .int (lst ((h - 1) * 24 + k))), (0, .ref (md 0)), (1, .int (nI fr)), (2, .int ka), (3, .int kb), (4, .int kw), (5, .int (nI h)), (6, .int (nI v)), (7, .int bs)]) hx hb dM_find_180 hl (k := 9) rfl (nI_1 _) (by decide) rfl (fun ls hl => ?_)
        refine lv_goto (tgt := 85) hx hb dM_find_183 (by decide) ?_
        have e_ : (mB3 xc lst h v) k (bs) = (bs) := by unfold mB3; rw [kIf_f c_120]; exact kIf_t c_138
        (try rw [e_] at ih)
        exact ih H locs ls hP hD hS (lv_sub hl [2, 3, 4, 5, 6, 7, 8, 9, 0] rfl)
      · skip
        refine lv_iload hx hb dM_find_141 (lv_at hl 0 rfl) ?_
        refine lv_aload_n hx hb dM_find_143 rfl (lv_at hl 1 rfl) ?_
        refine va_get (D := D) (ci := 5) (v := .ref (md 1)) (C := RM) (T := TM) (N := 24) hx hb hts iM hown hK hP 0 rfl rfl 2 (by decide) (hts _ w_342) (fun _ h9 => h9) rfl dM_find_144 ?_
        refine lv_bipush (v := 24) hx hb dM_find_147 (by decide) ?_
        refine lv_iload hx hb dM_find_149 (lv_at hl 9 rfl) ?_
        refine lv_imul hx hb dM_find_151 ?_
        refine lv_topi (fun y_ ey_ => ?_)
        obtain rfl : y_ = nI (k * 24) := ey_.trans (k_mulL 24 _ rfl)
        refine lv_iload hx hb dM_find_152 (lv_at hl 7 rfl) ?_
        refine lv_iadd hx hb dM_find_154 ?_
        refine lv_topi (fun y_ ey_ => ?_)
        obtain rfl : y_ = nI (k * 24 + v) := ey_.trans (nI_add _ _)
        refine ka_iald (k := k * 24 + v) hx hb hK hP 1 0 rfl rfl (by omega) (by omega) rfl dM_find_155 ?_
        refine lv_iadd hx hb dM_find_156 ?_
        refine lv_iload hx hb dM_find_157 (lv_at hl 8 rfl) ?_
        refine lv_icmp_ge (tgt := 180) hx hb dM_find_159 (by decide) (fun c_159 => ?_) (fun c_159 => ?_)
        · skip
          refine lv_iinc (v := nI (k + 1)) (lv' := [(8, .int (nI (k + 1))), (9, .int (lst ((h - 1) * 24 + k))), (0, .ref (md 0)), (1, .int (nI fr)), (2, .int ka), (3, .int kb), (4, .int kw), (5, .int (nI h)), (6, .int (nI v)), (7, .int bs)]) hx hb dM_find_180 hl (k := 9) rfl (nI_1 _) (by decide) rfl (fun ls hl => ?_)
          refine lv_goto (tgt := 85) hx hb dM_find_183 (by decide) ?_
          have e_ : (mB3 xc lst h v) k (bs) = (bs) := by unfold mB3; rw [kIf_f c_120]; rw [kIf_f c_138]; exact kIf_t c_159
          (try rw [e_] at ih)
          exact ih H locs ls hP hD hS (lv_sub hl [2, 3, 4, 5, 6, 7, 8, 9, 0] rfl)
        · skip
          refine lv_iload hx hb dM_find_162 (lv_at hl 0 rfl) ?_
          refine lv_aload_n hx hb dM_find_164 rfl (lv_at hl 1 rfl) ?_
          refine va_get (D := D) (ci := 5) (v := .ref (md 1)) (C := RM) (T := TM) (N := 24) hx hb hts iM hown hK hP 0 rfl rfl 2 (by decide) (hts _ w_342) (fun _ h9 => h9) rfl dM_find_165 ?_
          refine lv_bipush (v := 24) hx hb dM_find_168 (by decide) ?_
          refine lv_iload hx hb dM_find_170 (lv_at hl 9 rfl) ?_
          refine lv_imul hx hb dM_find_172 ?_
          refine lv_topi (fun y_ ey_ => ?_)
          obtain rfl : y_ = nI (k * 24) := ey_.trans (k_mulL 24 _ rfl)
          refine lv_iload hx hb dM_find_173 (lv_at hl 7 rfl) ?_
          refine lv_iadd hx hb dM_find_175 ?_
          refine lv_topi (fun y_ ey_ => ?_)
          obtain rfl : y_ = nI (k * 24 + v) := ey_.trans (nI_add _ _)
          refine ka_iald (k := k * 24 + v) hx hb hK hP 1 0 rfl rfl (by omega) (by omega) rfl dM_find_176 ?_
          refine lv_iadd hx hb dM_find_177 ?_
          refine lv_istore (lv' := [(7, .int ((lst ((h - 1) * 24 + k)) + (xc (k * 24 + v)))), (9, .int (lst ((h - 1) * 24 + k))), (0, .ref (md 0)), (1, .int (nI fr)), (2, .int ka), (3, .int kb), (4, .int kw), (5, .int (nI h)), (6, .int (nI v)), (8, .int (nI k))]) hx hb dM_find_178 hl (by decide) rfl (fun ls hl => ?_)
          refine lv_iinc (v := nI (k + 1)) (lv' := [(8, .int (nI (k + 1))), (7, .int ((lst ((h - 1) * 24 + k)) + (xc (k * 24 + v)))), (9, .int (lst ((h - 1) * 24 + k))), (0, .ref (md 0)), (1, .int (nI fr)), (2, .int ka), (3, .int kb), (4, .int kw), (5, .int (nI h)), (6, .int (nI v))]) hx hb dM_find_180 hl (k := 9) rfl (nI_1 _) (by decide) rfl (fun ls hl => ?_)
          refine lv_goto (tgt := 85) hx hb dM_find_183 (by decide) ?_
          have e_ : (mB3 xc lst h v) k (bs) = ((lst ((h - 1) * 24 + k)) + (xc (k * 24 + v))) := by unfold mB3; rw [kIf_f c_120]; rw [kIf_f c_138]; exact kIf_f c_159
          (try rw [e_] at ih)
          exact ih H locs ls hP hD hS (lv_sub hl [3, 4, 5, 6, 7, 8, 9, 1, 0] rfl)
set_option maxHeartbeats 4000000 in
set_option maxRecDepth 100000 in
theorem lm_2 {p : Program} {l : Launch} {e : Env} {s : State} {m : MethodId} {args : Array Value} {below : List Frame} {meth : Method} {c : Code} {Q : State → Prop} {D : va_G} {τ : Nat → ClassId} {A : Nat → Prop} (hx : p.tables.exec = Jvm.exec) (hb : c.code = cM_find) (hml : c.maxLocals = 10) (hown : s.vm.findClass RM = some m.cls) (hts : ∀ w ∈ kTbl, w.before args s = true) (hK : va_K D vwCl (kTys τ) s) (hA : ∀ q : Nat, s.heap.size ≤ q → A q) (md : Nat → Nat) (th : Int32) (N : Nat) (K : Nat) (ib : Int32) (ch : Int32) (rs : Int32) (xc : Nat → Int32) (fl : Nat → Int32) (fh : Nat → Int32) (fp : Nat → Int32) (fr : Nat) (ka : Int32) (kb : Int32) (kw : Int32) (h : Nat) (g : Nat → Int32) (hN : N ≤ 24) (hhN : h < N) (hfr : fr < 24)
    (kx : ∀ (H : Heap) (locs : List Loc) (ls : Array Slot), va_P D vwCl [(md 0, .inr (5, [.int th, .int (nI N), .ref (md 1), .ref (md 2), .ref (md 3), .ref (md 4), .ref (md 5), .ref (md 6), .ref (md 7), .ref (md 8), .ref (md 9), .ref (md 10), .ref (md 11), .ref (md 12), .ref (md 13), .ref (md 14), .int (nI K), .ref (md 15), .ref (md 16), .ref (md 17), .int ib, .int ch, .int rs, .ref (md 18)])), (md 1, .inl (τ 0, 576, .inl xc)), (md 11, .inl (τ 0, 600, .inl (kItr (mL2 N xc fr h) N (g)))), (md 12, .inl (τ 0, 24, .inl fl)), (md 13, .inl (τ 0, 24, .inl fh)), (md 14, .inl (τ 0, 24, .inl fp))] H → va_D A [(md 0, .inr (5, [.int th, .int (nI N), .ref (md 1), .ref (md 2), .ref (md 3), .ref (md 4), .ref (md 5), .ref (md 6), .ref (md 7), .ref (md 8), .ref (md 9), .ref (md 10), .ref (md 11), .ref (md 12), .ref (md 13), .ref (md 14), .int (nI K), .ref (md 15), .ref (md 16), .ref (md 17), .int ib, .int ch, .int rs, .ref (md 18)])), (md 1, .inl (τ 0, 576, .inl xc)), (md 11, .inl (τ 0, 600, .inl (kItr (mL2 N xc fr h) N (g)))), (md 12, .inl (τ 0, 24, .inl fl)), (md 13, .inl (τ 0, 24, .inl fh)), (md 14, .inl (τ 0, 24, .inl fp))] → va_S A s.heap H locs → lv_has ls 10 [(0, .ref (md 0)), (1, .int (nI fr)), (2, .int ka), (3, .int kb), (4, .int kw), (5, .int (nI h))] → W p l e (headSpec (kWs yM_find cM_find 10 none) { frames := 0, cells := 0, slots := 0, locals := 0 }).room s m args below meth c H locs 0 0 Q (F0 m 207 ls [])) :
    ∀ (n k : Nat), k + n = N → ∀ (H : Heap) (locs : List Loc) (ls : Array Slot), va_P D vwCl [(md 0, .inr (5, [.int th, .int (nI N), .ref (md 1), .ref (md 2), .ref (md 3), .ref (md 4), .ref (md 5), .ref (md 6), .ref (md 7), .ref (md 8), .ref (md 9), .ref (md 10), .ref (md 11), .ref (md 12), .ref (md 13), .ref (md 14), .int (nI K), .ref (md 15), .ref (md 16), .ref (md 17), .int ib, .int ch, .int rs, .ref (md 18)])), (md 1, .inl (τ 0, 576, .inl xc)), (md 11, .inl (τ 0, 600, .inl (kItr (mL2 N xc fr h) k (g)))), (md 12, .inl (τ 0, 24, .inl fl)), (md 13, .inl (τ 0, 24, .inl fh)), (md 14, .inl (τ 0, 24, .inl fp))] H → va_D A [(md 0, .inr (5, [.int th, .int (nI N), .ref (md 1), .ref (md 2), .ref (md 3), .ref (md 4), .ref (md 5), .ref (md 6), .ref (md 7), .ref (md 8), .ref (md 9), .ref (md 10), .ref (md 11), .ref (md 12), .ref (md 13), .ref (md 14), .int (nI K), .ref (md 15), .ref (md 16), .ref (md 17), .int ib, .int ch, .int rs, .ref (md 18)])), (md 1, .inl (τ 0, 576, .inl xc)), (md 11, .inl (τ 0, 600, .inl (kItr (mL2 N xc fr h) k (g)))), (md 12, .inl (τ 0, 24, .inl fl)), (md 13, .inl (τ 0, 24, .inl fh)), (md 14, .inl (τ 0, 24, .inl fp))] → va_S A s.heap H locs → lv_has ls 10 [(0, .ref (md 0)), (1, .int (nI fr)), (2, .int ka), (3, .int kb), (4, .int kw), (5, .int (nI h)), (6, .int (nI k))] → W p l e (headSpec (kWs yM_find cM_find 10 none) { frames := 0, cells := 0, slots := 0, locals := 0 }).room s m args below meth c H locs 0 0 Q (F0 m 54 ls []) := by
  intro n
  induction n with
  | zero =>
    intro k hk H locs ls hP hD hS hl
    have hkN : N = k := by omega
    subst hkN
    revert hP hD hl
    generalize hst : (kItr (mL2 N xc fr h) N (g)) = lst
    intro hP hD hl
    have hP : va_P D vwCl [(md 0, .inr (5, [.int th, .int (nI N), .ref (md 1), .ref (md 2), .ref (md 3), .ref (md 4), .ref (md 5), .ref (md 6), .ref (md 7), .ref (md 8), .ref (md 9), .ref (md 10), .ref (md 11), .ref (md 12), .ref (md 13), .ref (md 14), .int (nI K), .ref (md 15), .ref (md 16), .ref (md 17), .int ib, .int ch, .int rs, .ref (md 18)])), (md 1, .inl (τ 0, 576, .inl xc)), (md 11, .inl (τ 0, 600, .inl lst)), (md 12, .inl (τ 0, 24, .inl fl)), (md 13, .inl (τ 0, 24, .inl fh)), (md 14, .inl (τ 0, 24, .inl fp))] H := hP
    have hD : va_D A [(md 0, .inr (5, [.int th, .int (nI N), .ref (md 1), .ref (md 2), .ref (md 3), .ref (md 4), .ref (md 5), .ref (md 6), .ref (md 7), .ref (md 8), .ref (md 9), .ref (md 10), .ref (md 11), .ref (md 12), .ref (md 13), .ref (md 14), .int (nI K), .ref (md 15), .ref (md 16), .ref (md 17), .int ib, .int ch, .int rs, .ref (md 18)])), (md 1, .inl (τ 0, 576, .inl xc)), (md 11, .inl (τ 0, 600, .inl lst)), (md 12, .inl (τ 0, 24, .inl fl)), (md 13, .inl (τ 0, 24, .inl fh)), (md 14, .inl (τ 0, 24, .inl fp))] := hD
    have hl : lv_has ls 10 [(0, .ref (md 0)), (1, .int (nI fr)), (2, .int ka), (3, .int kb), (4, .int kw), (5, .int (nI h)), (6, .int (nI N))] := hl
    refine lv_iload hx hb dM_find_54 (lv_at hl 6 rfl) ?_
    refine lv_aload_n hx hb dM_find_56 rfl (lv_at hl 0 rfl) ?_
    refine va_get (D := D) (ci := 5) (v := .int (nI N)) (C := RM) (T := TM) (N := 24) hx hb hts iM hown hK hP 0 rfl rfl 1 (by decide) (hts _ w_341) (fun _ h9 => h9) rfl dM_find_57 ?_
    refine lv_icmp_ge (tgt := 207) hx hb dM_find_60 (by decide) (fun c_60 => ?_) (fun c_60 => absurd (nI_le (Nat.le_refl _) (by omega)) c_60)
    exact kx H locs ls (by (try rw [hst]); exact hP) (by (try rw [hst]); exact hD) hS (by (try rw [hst]); exact lv_sub hl [0, 1, 2, 3, 4, 5] rfl)
  | succ n ih =>
    intro k hk H locs ls hP hD hS hl
    have hkN : k < N := by omega
    have ih := ih (k + 1) (by omega)
    rw [kItr_s] at ih
    revert hP hD hl ih
    generalize hst : (kItr (mL2 N xc fr h) k (g)) = lst
    intro hP hD hl ih
    have hP : va_P D vwCl [(md 0, .inr (5, [.int th, .int (nI N), .ref (md 1), .ref (md 2), .ref (md 3), .ref (md 4), .ref (md 5), .ref (md 6), .ref (md 7), .ref (md 8), .ref (md 9), .ref (md 10), .ref (md 11), .ref (md 12), .ref (md 13), .ref (md 14), .int (nI K), .ref (md 15), .ref (md 16), .ref (md 17), .int ib, .int ch, .int rs, .ref (md 18)])), (md 1, .inl (τ 0, 576, .inl xc)), (md 11, .inl (τ 0, 600, .inl lst)), (md 12, .inl (τ 0, 24, .inl fl)), (md 13, .inl (τ 0, 24, .inl fh)), (md 14, .inl (τ 0, 24, .inl fp))] H := hP
    have hD : va_D A [(md 0, .inr (5, [.int th, .int (nI N), .ref (md 1), .ref (md 2), .ref (md 3), .ref (md 4), .ref (md 5), .ref (md 6), .ref (md 7), .ref (md 8), .ref (md 9), .ref (md 10), .ref (md 11), .ref (md 12), .ref (md 13), .ref (md 14), .int (nI K), .ref (md 15), .ref (md 16), .ref (md 17), .int ib, .int ch, .int rs, .ref (md 18)])), (md 1, .inl (τ 0, 576, .inl xc)), (md 11, .inl (τ 0, 600, .inl lst)), (md 12, .inl (τ 0, 24, .inl fl)), (md 13, .inl (τ 0, 24, .inl fh)), (md 14, .inl (τ 0, 24, .inl fp))] := hD
    have hl : lv_has ls 10 [(0, .ref (md 0)), (1, .int (nI fr)), (2, .int ka), (3, .int kb), (4, .int kw), (5, .int (nI h)), (6, .int (nI k))] := hl
    refine lv_iload hx hb dM_find_54 (lv_at hl 6 rfl) ?_
    refine lv_aload_n hx hb dM_find_56 rfl (lv_at hl 0 rfl) ?_
    refine va_get (D := D) (ci := 5) (v := .int (nI N)) (C := RM) (T := TM) (N := 24) hx hb hts iM hown hK hP 0 rfl rfl 1 (by decide) (hts _ w_341) (fun _ h9 => h9) rfl dM_find_57 ?_
    refine lv_icmp_ge (tgt := 207) hx hb dM_find_60 (by decide) (fun c_60 => absurd c_60 (nI_ge hkN (by omega))) (fun c_60 => ?_)
    rcases Nat.eq_zero_or_pos h with hh | hh
    · skip
      subst hh
      refine lv_iload hx hb dM_find_63 (lv_at hl 5 rfl) ?_
      refine lv_if_ne (tgt := 78) hx hb dM_find_65 (by decide) (fun c_65 => absurd c_65 (by decide)) (fun c_65 => ?_)
      refine lv_iload hx hb dM_find_68 (lv_at hl 6 rfl) ?_
      refine lv_iload_n hx hb dM_find_70 rfl (lv_at hl 1 rfl) ?_
      refine lv_icmp_ne (tgt := 78) hx hb dM_find_71 (by decide) (fun c_71 => ?_) (fun c_71 => ?_)
      · skip
        have hvf : ¬ k = fr := fun z => c_71 (by rw [z])
        refine lv_ldc (v := 1000000) hx hb hown (hts _ w_330) dM_find_78 ?_
        refine lv_istore (lv' := [(7, .int 1000000), (0, .ref (md 0)), (1, .int (nI fr)), (2, .int ka), (3, .int kb), (4, .int kw), (5, .int (nI 0)), (6, .int (nI k))]) hx hb dM_find_80 hl (by decide) rfl (fun ls hl => ?_)
        refine lv_iconst (v := 0) hx hb dM_find_82 (by decide) ?_
        refine lv_istore (lv' := [(8, .int 0), (7, .int 1000000), (0, .ref (md 0)), (1, .int (nI fr)), (2, .int ka), (3, .int kb), (4, .int kw), (5, .int (nI 0)), (6, .int (nI k))]) hx hb dM_find_83 hl (by decide) rfl (fun ls hl => ?_)
        refine lv_iload hx hb dM_find_85 (lv_at hl 0 rfl) ?_
        refine lv_aload_n hx hb dM_find_87 rfl (lv_at hl 2 rfl) ?_
        refine va_get (D := D) (ci := 5) (v := .int (nI N)) (C := RM) (T := TM) (N := 24) hx hb hts iM hown hK hP 0 rfl rfl 1 (by decide) (hts _ w_341) (fun _ h9 => h9) rfl dM_find_88 ?_
        refine lv_icmp_ge (tgt := 186) hx hb dM_find_91 (by decide) (fun c_91 => absurd c_91 (nI_ge (a := 0) (by omega) (by omega))) (fun c_91 => ?_)
        refine lv_iload hx hb dM_find_94 (lv_at hl 7 rfl) ?_
        refine lv_if_le (tgt := 186) hx hb dM_find_96 (by decide) (fun c_96 => ?_) (fun c_96 => absurd c_96 (by decide))
        refine lv_aload_n hx hb dM_find_186 rfl (lv_at hl 2 rfl) ?_
        refine va_get (D := D) (ci := 5) (v := .ref (md 11)) (C := RM) (T := TM) (N := 24) hx hb hts iM hown hK hP 0 rfl rfl 12 (by decide) (hts _ w_352) (fun _ h9 => h9) rfl dM_find_187 ?_
        refine lv_bipush (v := 24) hx hb dM_find_190 (by decide) ?_
        refine lv_iload hx hb dM_find_192 (lv_at hl 7 rfl) ?_
        refine lv_imul hx hb dM_find_194 ?_
        refine lv_topi (fun y_ ey_ => ?_)
        obtain rfl : y_ = nI (0 * 24) := ey_.trans (k_mulL 24 _ rfl)
        refine lv_iload hx hb dM_find_195 (lv_at hl 8 rfl) ?_
        refine lv_iadd hx hb dM_find_197 ?_
        refine lv_topi (fun y_ ey_ => ?_)
        obtain rfl : y_ = nI (0 * 24 + k) := ey_.trans (nI_add _ _)
        refine lv_iload hx hb dM_find_198 (lv_at hl 1 rfl) ?_
        refine ka_iast (k := 0 * 24 + k) hx hb hK hP hD hS 2 0 rfl rfl (by omega) (by omega) rfl dM_find_200 (fun H locs hP hD hS => ?_)
        have hP : va_P D vwCl [(md 0, .inr (5, [.int th, .int (nI N), .ref (md 1), .ref (md 2), .ref (md 3), .ref (md 4), .ref (md 5), .ref (md 6), .ref (md 7), .ref (md 8), .ref (md 9), .ref (md 10), .ref (md 11), .ref (md 12), .ref (md 13), .ref (md 14), .int (nI K), .ref (md 15), .ref (md 16), .ref (md 17), .int ib, .int ch, .int rs, .ref (md 18)])), (md 1, .inl (τ 0, 576, .inl xc)), (md 11, .inl (τ 0, 600, .inl (upd lst (0 * 24 + k) 1000000))), (md 12, .inl (τ 0, 24, .inl fl)), (md 13, .inl (τ 0, 24, .inl fh)), (md 14, .inl (τ 0, 24, .inl fp))] H := hP
        have hD : va_D A [(md 0, .inr (5, [.int th, .int (nI N), .ref (md 1), .ref (md 2), .ref (md 3), .ref (md 4), .ref (md 5), .ref (md 6), .ref (md 7), .ref (md 8), .ref (md 9), .ref (md 10), .ref (md 11), .ref (md 12), .ref (md 13), .ref (md 14), .int (nI K), .ref (md 15), .ref (md 16), .ref (md 17), .int ib, .int ch, .int rs, .ref (md 18)])), (md 1, .inl (τ 0, 576, .inl xc)), (md 11, .inl (τ 0, 600, .inl (upd lst (0 * 24 + k) 1000000))), (md 12, .inl (τ 0, 24, .inl fl)), (md 13, .inl (τ 0, 24, .inl fh)), (md 14, .inl (τ 0, 24, .inl fp))] := hD
        refine lv_iinc (v := nI (k + 1)) (lv' := [(6, .int (nI (k + 1))), (8, .int 0), (7, .int 1000000), (0, .ref (md 0)), (1, .int (nI fr)), (2, .int ka), (3, .int kb), (4, .int kw), (5, .int (nI 0))]) hx hb dM_find_201 hl (k := 8) rfl (nI_1 _) (by decide) rfl (fun ls hl => ?_)
        refine lv_goto (tgt := 54) hx hb dM_find_204 (by decide) ?_
        have e_ : (mL2 N xc fr 0) k (lst) = (upd lst (0 * 24 + k) 1000000) := by unfold mL2 mBest; rw [kIf_t rfl]; rw [kIf_f hvf]
        (try rw [e_] at ih)
        exact ih H locs ls hP hD hS (lv_sub hl [3, 4, 5, 6, 7, 8, 0] rfl)
      · skip
        have hvf : k = fr := (nI_eq (by omega) (by omega)).mp c_71
        refine lv_iconst (v := 0) hx hb dM_find_74 (by decide) ?_
        refine lv_goto (tgt := 80) hx hb dM_find_75 (by decide) ?_
        refine lv_istore (lv' := [(7, .int 0), (0, .ref (md 0)), (1, .int (nI fr)), (2, .int ka), (3, .int kb), (4, .int kw), (5, .int (nI 0)), (6, .int (nI k))]) hx hb dM_find_80 hl (by decide) rfl (fun ls hl => ?_)
        refine lv_iconst (v := 0) hx hb dM_find_82 (by decide) ?_
        refine lv_istore (lv' := [(8, .int 0), (7, .int 0), (0, .ref (md 0)), (1, .int (nI fr)), (2, .int ka), (3, .int kb), (4, .int kw), (5, .int (nI 0)), (6, .int (nI k))]) hx hb dM_find_83 hl (by decide) rfl (fun ls hl => ?_)
        refine lv_iload hx hb dM_find_85 (lv_at hl 0 rfl) ?_
        refine lv_aload_n hx hb dM_find_87 rfl (lv_at hl 2 rfl) ?_
        refine va_get (D := D) (ci := 5) (v := .int (nI N)) (C := RM) (T := TM) (N := 24) hx hb hts iM hown hK hP 0 rfl rfl 1 (by decide) (hts _ w_341) (fun _ h9 => h9) rfl dM_find_88 ?_
        refine lv_icmp_ge (tgt := 186) hx hb dM_find_91 (by decide) (fun c_91 => absurd c_91 (nI_ge (a := 0) (by omega) (by omega))) (fun c_91 => ?_)
        refine lv_iload hx hb dM_find_94 (lv_at hl 7 rfl) ?_
        refine lv_if_le (tgt := 186) hx hb dM_find_96 (by decide) (fun c_96 => ?_) (fun c_96 => absurd c_96 (by decide))
        refine lv_aload_n hx hb dM_find_186 rfl (lv_at hl 2 rfl) ?_
        refine va_get (D := D) (ci := 5) (v := .ref (md 11)) (C := RM) (T := TM) (N := 24) hx hb hts iM hown hK hP 0 rfl rfl 12 (by decide) (hts _ w_352) (fun _ h9 => h9) rfl dM_find_187 ?_
        refine lv_bipush (v := 24) hx hb dM_find_190 (by decide) ?_
        refine lv_iload hx hb dM_find_192 (lv_at hl 7 rfl) ?_
        refine lv_imul hx hb dM_find_194 ?_
        refine lv_topi (fun y_ ey_ => ?_)
        obtain rfl : y_ = nI (0 * 24) := ey_.trans (k_mulL 24 _ rfl)
        refine lv_iload hx hb dM_find_195 (lv_at hl 8 rfl) ?_
        refine lv_iadd hx hb dM_find_197 ?_
        refine lv_topi (fun y_ ey_ => ?_)
        obtain rfl : y_ = nI (0 * 24 + k) := ey_.trans (nI_add _ _)
        refine lv_iload hx hb dM_find_198 (lv_at hl 1 rfl) ?_
        refine ka_iast (k := 0 * 24 + k) hx hb hK hP hD hS 2 0 rfl rfl (by omega) (by omega) rfl dM_find_200 (fun H locs hP hD hS => ?_)
        have hP : va_P D vwCl [(md 0, .inr (5, [.int th, .int (nI N), .ref (md 1), .ref (md 2), .ref (md 3), .ref (md 4), .ref (md 5), .ref (md 6), .ref (md 7), .ref (md 8), .ref (md 9), .ref (md 10), .ref (md 11), .ref (md 12), .ref (md 13), .ref (md 14), .int (nI K), .ref (md 15), .ref (md 16), .ref (md 17), .int ib, .int ch, .int rs, .ref (md 18)])), (md 1, .inl (τ 0, 576, .inl xc)), (md 11, .inl (τ 0, 600, .inl (upd lst (0 * 24 + k) 0))), (md 12, .inl (τ 0, 24, .inl fl)), (md 13, .inl (τ 0, 24, .inl fh)), (md 14, .inl (τ 0, 24, .inl fp))] H := hP
        have hD : va_D A [(md 0, .inr (5, [.int th, .int (nI N), .ref (md 1), .ref (md 2), .ref (md 3), .ref (md 4), .ref (md 5), .ref (md 6), .ref (md 7), .ref (md 8), .ref (md 9), .ref (md 10), .ref (md 11), .ref (md 12), .ref (md 13), .ref (md 14), .int (nI K), .ref (md 15), .ref (md 16), .ref (md 17), .int ib, .int ch, .int rs, .ref (md 18)])), (md 1, .inl (τ 0, 576, .inl xc)), (md 11, .inl (τ 0, 600, .inl (upd lst (0 * 24 + k) 0))), (md 12, .inl (τ 0, 24, .inl fl)), (md 13, .inl (τ 0, 24, .inl fh)), (md 14, .inl (τ 0, 24, .inl fp))] := hD
        refine lv_iinc (v := nI (k + 1)) (lv' := [(6, .int (nI (k + 1))), (8, .int 0), (7, .int 0), (0, .ref (md 0)), (1, .int (nI fr)), (2, .int ka), (3, .int kb), (4, .int kw), (5, .int (nI 0))]) hx hb dM_find_201 hl (k := 8) rfl (nI_1 _) (by decide) rfl (fun ls hl => ?_)
        refine lv_goto (tgt := 54) hx hb dM_find_204 (by decide) ?_
        have e_ : (mL2 N xc fr 0) k (lst) = (upd lst (0 * 24 + k) 0) := by unfold mL2 mBest; rw [kIf_t rfl]; rw [kIf_t hvf]
        (try rw [e_] at ih)
        exact ih H locs ls hP hD hS (lv_sub hl [3, 4, 5, 6, 7, 8, 0] rfl)
    · skip
      refine lv_iload hx hb dM_find_63 (lv_at hl 5 rfl) ?_
      refine lv_if_ne (tgt := 78) hx hb dM_find_65 (by decide) (fun c_65 => ?_) (fun c_65 => absurd c_65 (nI_ne0 hh (by omega)))
      refine lv_ldc (v := 1000000) hx hb hown (hts _ w_330) dM_find_78 ?_
      refine lv_istore (lv' := [(7, .int 1000000), (0, .ref (md 0)), (1, .int (nI fr)), (2, .int ka), (3, .int kb), (4, .int kw), (5, .int (nI h)), (6, .int (nI k))]) hx hb dM_find_80 hl (by decide) rfl (fun ls hl => ?_)
      refine lv_iconst (v := 0) hx hb dM_find_82 (by decide) ?_
      refine lv_istore (lv' := [(8, .int 0), (7, .int 1000000), (0, .ref (md 0)), (1, .int (nI fr)), (2, .int ka), (3, .int kb), (4, .int kw), (5, .int (nI h)), (6, .int (nI k))]) hx hb dM_find_83 hl (by decide) rfl (fun ls hl => ?_)
      refine lm_3 hx hb hml hown hts hK hA md th N K ib ch rs xc lst fl fh fp fr ka kb kw h k 1000000 (by first | assumption | omega) (by first | assumption | omega) (by first | assumption | omega) (by first | assumption | omega) (fun H locs ls hP hD hS hl => ?_) N 0 (by omega) _ _ ls hP hD hS (lv_sub hl [2, 3, 4, 5, 6, 7, 8, 1, 0] rfl)
      refine lv_aload_n hx hb dM_find_186 rfl (lv_at hl 0 rfl) ?_
      refine va_get (D := D) (ci := 5) (v := .ref (md 11)) (C := RM) (T := TM) (N := 24) hx hb hts iM hown hK hP 0 rfl rfl 12 (by decide) (hts _ w_352) (fun _ h9 => h9) rfl dM_find_187 ?_
      refine lv_bipush (v := 24) hx hb dM_find_190 (by decide) ?_
      refine lv_iload hx hb dM_find_192 (lv_at hl 5 rfl) ?_
      refine lv_imul hx hb dM_find_194 ?_
      refine lv_topi (fun y_ ey_ => ?_)
      obtain rfl : y_ = nI (h * 24) := ey_.trans (k_mulL 24 _ rfl)
      refine lv_iload hx hb dM_find_195 (lv_at hl 6 rfl) ?_
      refine lv_iadd hx hb dM_find_197 ?_
      refine lv_topi (fun y_ ey_ => ?_)
      obtain rfl : y_ = nI (h * 24 + k) := ey_.trans (nI_add _ _)
      refine lv_iload hx hb dM_find_198 (lv_at hl 7 rfl) ?_
      refine ka_iast (k := h * 24 + k) hx hb hK hP hD hS 2 0 rfl rfl (by omega) (by omega) rfl dM_find_200 (fun H locs hP hD hS => ?_)
      have hP : va_P D vwCl [(md 0, .inr (5, [.int th, .int (nI N), .ref (md 1), .ref (md 2), .ref (md 3), .ref (md 4), .ref (md 5), .ref (md 6), .ref (md 7), .ref (md 8), .ref (md 9), .ref (md 10), .ref (md 11), .ref (md 12), .ref (md 13), .ref (md 14), .int (nI K), .ref (md 15), .ref (md 16), .ref (md 17), .int ib, .int ch, .int rs, .ref (md 18)])), (md 1, .inl (τ 0, 576, .inl xc)), (md 11, .inl (τ 0, 600, .inl (upd lst (h * 24 + k) (kItr (mB3 xc lst h k) (N) (1000000))))), (md 12, .inl (τ 0, 24, .inl fl)), (md 13, .inl (τ 0, 24, .inl fh)), (md 14, .inl (τ 0, 24, .inl fp))] H := hP
      have hD : va_D A [(md 0, .inr (5, [.int th, .int (nI N), .ref (md 1), .ref (md 2), .ref (md 3), .ref (md 4), .ref (md 5), .ref (md 6), .ref (md 7), .ref (md 8), .ref (md 9), .ref (md 10), .ref (md 11), .ref (md 12), .ref (md 13), .ref (md 14), .int (nI K), .ref (md 15), .ref (md 16), .ref (md 17), .int ib, .int ch, .int rs, .ref (md 18)])), (md 1, .inl (τ 0, 576, .inl xc)), (md 11, .inl (τ 0, 600, .inl (upd lst (h * 24 + k) (kItr (mB3 xc lst h k) (N) (1000000))))), (md 12, .inl (τ 0, 24, .inl fl)), (md 13, .inl (τ 0, 24, .inl fh)), (md 14, .inl (τ 0, 24, .inl fp))] := hD
      refine lv_iinc (v := nI (k + 1)) (lv' := [(6, .int (nI (k + 1))), (0, .ref (md 0)), (1, .int (nI fr)), (2, .int ka), (3, .int kb), (4, .int kw), (5, .int (nI h)), (7, .int (kItr (mB3 xc lst h k) (N) (1000000)))]) hx hb dM_find_201 hl (k := 6) rfl (nI_1 _) (by decide) rfl (fun ls hl => ?_)
      refine lv_goto (tgt := 54) hx hb dM_find_204 (by decide) ?_
      have e_ : (mL2 N xc fr h) k (lst) = (upd lst (h * 24 + k) (kItr (mB3 xc lst h k) (N) (1000000))) := by unfold mL2 mBest; rw [kIf_f (by omega)]
      (try rw [e_] at ih)
      exact ih H locs ls hP hD hS (lv_sub hl [1, 2, 3, 4, 5, 6, 0] rfl)
set_option maxHeartbeats 4000000 in
set_option maxRecDepth 100000 in
theorem lm_1 {p : Program} {l : Launch} {e : Env} {s : State} {m : MethodId} {args : Array Value} {below : List Frame} {meth : Method} {c : Code} {Q : State → Prop} {D : va_G} {τ : Nat → ClassId} {A : Nat → Prop} (hx : p.tables.exec = Jvm.exec) (hb : c.code = cM_find) (hml : c.maxLocals = 10) (hown : s.vm.findClass RM = some m.cls) (hts : ∀ w ∈ kTbl, w.before args s = true) (hK : va_K D vwCl (kTys τ) s) (hA : ∀ q : Nat, s.heap.size ≤ q → A q) (md : Nat → Nat) (th : Int32) (N : Nat) (K : Nat) (ib : Int32) (ch : Int32) (rs : Int32) (xc : Nat → Int32) (fl : Nat → Int32) (fh : Nat → Int32) (fp : Nat → Int32) (fr : Nat) (ka : Int32) (kb : Int32) (kw : Int32) (g : Nat → Int32) (hN : N ≤ 24) (hfr : fr < 24)
    (kx : ∀ (H : Heap) (locs : List Loc) (ls : Array Slot), va_P D vwCl [(md 0, .inr (5, [.int th, .int (nI N), .ref (md 1), .ref (md 2), .ref (md 3), .ref (md 4), .ref (md 5), .ref (md 6), .ref (md 7), .ref (md 8), .ref (md 9), .ref (md 10), .ref (md 11), .ref (md 12), .ref (md 13), .ref (md 14), .int (nI K), .ref (md 15), .ref (md 16), .ref (md 17), .int ib, .int ch, .int rs, .ref (md 18)])), (md 1, .inl (τ 0, 576, .inl xc)), (md 11, .inl (τ 0, 600, .inl (kItr (mL1 N xc fr) N (g)))), (md 12, .inl (τ 0, 24, .inl fl)), (md 13, .inl (τ 0, 24, .inl fh)), (md 14, .inl (τ 0, 24, .inl fp))] H → va_D A [(md 0, .inr (5, [.int th, .int (nI N), .ref (md 1), .ref (md 2), .ref (md 3), .ref (md 4), .ref (md 5), .ref (md 6), .ref (md 7), .ref (md 8), .ref (md 9), .ref (md 10), .ref (md 11), .ref (md 12), .ref (md 13), .ref (md 14), .int (nI K), .ref (md 15), .ref (md 16), .ref (md 17), .int ib, .int ch, .int rs, .ref (md 18)])), (md 1, .inl (τ 0, 576, .inl xc)), (md 11, .inl (τ 0, 600, .inl (kItr (mL1 N xc fr) N (g)))), (md 12, .inl (τ 0, 24, .inl fl)), (md 13, .inl (τ 0, 24, .inl fh)), (md 14, .inl (τ 0, 24, .inl fp))] → va_S A s.heap H locs → lv_has ls 10 [(0, .ref (md 0)), (1, .int (nI fr)), (2, .int ka), (3, .int kb), (4, .int kw)] → W p l e (headSpec (kWs yM_find cM_find 10 none) { frames := 0, cells := 0, slots := 0, locals := 0 }).room s m args below meth c H locs 0 0 Q (F0 m 213 ls [])) :
    ∀ (n k : Nat), k + n = N → ∀ (H : Heap) (locs : List Loc) (ls : Array Slot), va_P D vwCl [(md 0, .inr (5, [.int th, .int (nI N), .ref (md 1), .ref (md 2), .ref (md 3), .ref (md 4), .ref (md 5), .ref (md 6), .ref (md 7), .ref (md 8), .ref (md 9), .ref (md 10), .ref (md 11), .ref (md 12), .ref (md 13), .ref (md 14), .int (nI K), .ref (md 15), .ref (md 16), .ref (md 17), .int ib, .int ch, .int rs, .ref (md 18)])), (md 1, .inl (τ 0, 576, .inl xc)), (md 11, .inl (τ 0, 600, .inl (kItr (mL1 N xc fr) k (g)))), (md 12, .inl (τ 0, 24, .inl fl)), (md 13, .inl (τ 0, 24, .inl fh)), (md 14, .inl (τ 0, 24, .inl fp))] H → va_D A [(md 0, .inr (5, [.int th, .int (nI N), .ref (md 1), .ref (md 2), .ref (md 3), .ref (md 4), .ref (md 5), .ref (md 6), .ref (md 7), .ref (md 8), .ref (md 9), .ref (md 10), .ref (md 11), .ref (md 12), .ref (md 13), .ref (md 14), .int (nI K), .ref (md 15), .ref (md 16), .ref (md 17), .int ib, .int ch, .int rs, .ref (md 18)])), (md 1, .inl (τ 0, 576, .inl xc)), (md 11, .inl (τ 0, 600, .inl (kItr (mL1 N xc fr) k (g)))), (md 12, .inl (τ 0, 24, .inl fl)), (md 13, .inl (τ 0, 24, .inl fh)), (md 14, .inl (τ 0, 24, .inl fp))] → va_S A s.heap H locs → lv_has ls 10 [(0, .ref (md 0)), (1, .int (nI fr)), (2, .int ka), (3, .int kb), (4, .int kw), (5, .int (nI k))] → W p l e (headSpec (kWs yM_find cM_find 10 none) { frames := 0, cells := 0, slots := 0, locals := 0 }).room s m args below meth c H locs 0 0 Q (F0 m 42 ls []) := by
  intro n
  induction n with
  | zero =>
    intro k hk H locs ls hP hD hS hl
    have hkN : N = k := by omega
    subst hkN
    revert hP hD hl
    generalize hst : (kItr (mL1 N xc fr) N (g)) = lst
    intro hP hD hl
    have hP : va_P D vwCl [(md 0, .inr (5, [.int th, .int (nI N), .ref (md 1), .ref (md 2), .ref (md 3), .ref (md 4), .ref (md 5), .ref (md 6), .ref (md 7), .ref (md 8), .ref (md 9), .ref (md 10), .ref (md 11), .ref (md 12), .ref (md 13), .ref (md 14), .int (nI K), .ref (md 15), .ref (md 16), .ref (md 17), .int ib, .int ch, .int rs, .ref (md 18)])), (md 1, .inl (τ 0, 576, .inl xc)), (md 11, .inl (τ 0, 600, .inl lst)), (md 12, .inl (τ 0, 24, .inl fl)), (md 13, .inl (τ 0, 24, .inl fh)), (md 14, .inl (τ 0, 24, .inl fp))] H := hP
    have hD : va_D A [(md 0, .inr (5, [.int th, .int (nI N), .ref (md 1), .ref (md 2), .ref (md 3), .ref (md 4), .ref (md 5), .ref (md 6), .ref (md 7), .ref (md 8), .ref (md 9), .ref (md 10), .ref (md 11), .ref (md 12), .ref (md 13), .ref (md 14), .int (nI K), .ref (md 15), .ref (md 16), .ref (md 17), .int ib, .int ch, .int rs, .ref (md 18)])), (md 1, .inl (τ 0, 576, .inl xc)), (md 11, .inl (τ 0, 600, .inl lst)), (md 12, .inl (τ 0, 24, .inl fl)), (md 13, .inl (τ 0, 24, .inl fh)), (md 14, .inl (τ 0, 24, .inl fp))] := hD
    have hl : lv_has ls 10 [(0, .ref (md 0)), (1, .int (nI fr)), (2, .int ka), (3, .int kb), (4, .int kw), (5, .int (nI N))] := hl
    refine lv_iload hx hb dM_find_42 (lv_at hl 5 rfl) ?_
    refine lv_aload_n hx hb dM_find_44 rfl (lv_at hl 0 rfl) ?_
    refine va_get (D := D) (ci := 5) (v := .int (nI N)) (C := RM) (T := TM) (N := 24) hx hb hts iM hown hK hP 0 rfl rfl 1 (by decide) (hts _ w_341) (fun _ h9 => h9) rfl dM_find_45 ?_
    refine lv_icmp_ge (tgt := 213) hx hb dM_find_48 (by decide) (fun c_48 => ?_) (fun c_48 => absurd (nI_le (Nat.le_refl _) (by omega)) c_48)
    exact kx H locs ls (by (try rw [hst]); exact hP) (by (try rw [hst]); exact hD) hS (by (try rw [hst]); exact lv_sub hl [0, 1, 2, 3, 4] rfl)
  | succ n ih =>
    intro k hk H locs ls hP hD hS hl
    have hkN : k < N := by omega
    have ih := ih (k + 1) (by omega)
    rw [kItr_s] at ih
    revert hP hD hl ih
    generalize hst : (kItr (mL1 N xc fr) k (g)) = lst
    intro hP hD hl ih
    have hP : va_P D vwCl [(md 0, .inr (5, [.int th, .int (nI N), .ref (md 1), .ref (md 2), .ref (md 3), .ref (md 4), .ref (md 5), .ref (md 6), .ref (md 7), .ref (md 8), .ref (md 9), .ref (md 10), .ref (md 11), .ref (md 12), .ref (md 13), .ref (md 14), .int (nI K), .ref (md 15), .ref (md 16), .ref (md 17), .int ib, .int ch, .int rs, .ref (md 18)])), (md 1, .inl (τ 0, 576, .inl xc)), (md 11, .inl (τ 0, 600, .inl lst)), (md 12, .inl (τ 0, 24, .inl fl)), (md 13, .inl (τ 0, 24, .inl fh)), (md 14, .inl (τ 0, 24, .inl fp))] H := hP
    have hD : va_D A [(md 0, .inr (5, [.int th, .int (nI N), .ref (md 1), .ref (md 2), .ref (md 3), .ref (md 4), .ref (md 5), .ref (md 6), .ref (md 7), .ref (md 8), .ref (md 9), .ref (md 10), .ref (md 11), .ref (md 12), .ref (md 13), .ref (md 14), .int (nI K), .ref (md 15), .ref (md 16), .ref (md 17), .int ib, .int ch, .int rs, .ref (md 18)])), (md 1, .inl (τ 0, 576, .inl xc)), (md 11, .inl (τ 0, 600, .inl lst)), (md 12, .inl (τ 0, 24, .inl fl)), (md 13, .inl (τ 0, 24, .inl fh)), (md 14, .inl (τ 0, 24, .inl fp))] := hD
    have hl : lv_has ls 10 [(0, .ref (md 0)), (1, .int (nI fr)), (2, .int ka), (3, .int kb), (4, .int kw), (5, .int (nI k))] := hl
    refine lv_iload hx hb dM_find_42 (lv_at hl 5 rfl) ?_
    refine lv_aload_n hx hb dM_find_44 rfl (lv_at hl 0 rfl) ?_
    refine va_get (D := D) (ci := 5) (v := .int (nI N)) (C := RM) (T := TM) (N := 24) hx hb hts iM hown hK hP 0 rfl rfl 1 (by decide) (hts _ w_341) (fun _ h9 => h9) rfl dM_find_45 ?_
    refine lv_icmp_ge (tgt := 213) hx hb dM_find_48 (by decide) (fun c_48 => absurd c_48 (nI_ge hkN (by omega))) (fun c_48 => ?_)
    refine lv_iconst (v := 0) hx hb dM_find_51 (by decide) ?_
    refine lv_istore (lv' := [(6, .int 0), (0, .ref (md 0)), (1, .int (nI fr)), (2, .int ka), (3, .int kb), (4, .int kw), (5, .int (nI k))]) hx hb dM_find_52 hl (by decide) rfl (fun ls hl => ?_)
    refine lm_2 hx hb hml hown hts hK hA md th N K ib ch rs xc fl fh fp fr ka kb kw k lst (by first | assumption | omega) (by first | assumption | omega) (by first | assumption | omega) (fun H locs ls hP hD hS hl => ?_) N 0 (by omega) _ _ ls hP hD hS (lv_sub hl [1, 2, 3, 4, 5, 6, 0] rfl)
    refine lv_iinc (v := nI (k + 1)) (lv' := [(5, .int (nI (k + 1))), (0, .ref (md 0)), (1, .int (nI fr)), (2, .int ka), (3, .int kb), (4, .int kw)]) hx hb dM_find_207 hl (k := 5) rfl (nI_1 _) (by decide) rfl (fun ls hl => ?_)
    refine lv_goto (tgt := 42) hx hb dM_find_210 (by decide) ?_
    have e_ : (mL1 N xc fr) k (lst) = ((kItr (mL2 N xc fr k) (N) (lst))) := by rfl
    (try rw [e_] at ih)
    exact ih H locs ls hP hD hS (lv_sub hl [1, 2, 3, 4, 5, 0] rfl)
set_option maxHeartbeats 4000000 in
set_option maxRecDepth 100000 in
theorem lm_5 {p : Program} {l : Launch} {e : Env} {s : State} {m : MethodId} {args : Array Value} {below : List Frame} {meth : Method} {c : Code} {Q : State → Prop} {D : va_G} {τ : Nat → ClassId} {A : Nat → Prop} (hx : p.tables.exec = Jvm.exec) (hb : c.code = cM_find) (hml : c.maxLocals = 10) (hown : s.vm.findClass RM = some m.cls) (hts : ∀ w ∈ kTbl, w.before args s = true) (hK : va_K D vwCl (kTys τ) s) (hA : ∀ q : Nat, s.heap.size ≤ q → A q) (md : Nat → Nat) (th : Int32) (N : Nat) (K : Nat) (ib : Int32) (ch : Int32) (rs : Int32) (xc : Nat → Int32) (lst : Nat → Int32) (fp : Nat → Int32) (fr : Nat) (ka : Int32) (kb : Int32) (kw : Int32) (v : Nat) (gl : Nat → Int32) (gh : Nat → Int32) (hN : N ≤ 24) (hv : v < N)
    (kx : ∀ (H : Heap) (locs : List Loc) (ls : Array Slot), va_P D vwCl [(md 0, .inr (5, [.int th, .int (nI N), .ref (md 1), .ref (md 2), .ref (md 3), .ref (md 4), .ref (md 5), .ref (md 6), .ref (md 7), .ref (md 8), .ref (md 9), .ref (md 10), .ref (md 11), .ref (md 12), .ref (md 13), .ref (md 14), .int (nI K), .ref (md 15), .ref (md 16), .ref (md 17), .int ib, .int ch, .int rs, .ref (md 18)])), (md 1, .inl (τ 0, 576, .inl xc)), (md 11, .inl (τ 0, 600, .inl lst)), (md 12, .inl (τ 0, 24, .inl ((kItr (mL5 lst v) N (gl, gh)).1))), (md 13, .inl (τ 0, 24, .inl ((kItr (mL5 lst v) N (gl, gh)).2))), (md 14, .inl (τ 0, 24, .inl fp))] H → va_D A [(md 0, .inr (5, [.int th, .int (nI N), .ref (md 1), .ref (md 2), .ref (md 3), .ref (md 4), .ref (md 5), .ref (md 6), .ref (md 7), .ref (md 8), .ref (md 9), .ref (md 10), .ref (md 11), .ref (md 12), .ref (md 13), .ref (md 14), .int (nI K), .ref (md 15), .ref (md 16), .ref (md 17), .int ib, .int ch, .int rs, .ref (md 18)])), (md 1, .inl (τ 0, 576, .inl xc)), (md 11, .inl (τ 0, 600, .inl lst)), (md 12, .inl (τ 0, 24, .inl ((kItr (mL5 lst v) N (gl, gh)).1))), (md 13, .inl (τ 0, 24, .inl ((kItr (mL5 lst v) N (gl, gh)).2))), (md 14, .inl (τ 0, 24, .inl fp))] → va_S A s.heap H locs → lv_has ls 10 [(0, .ref (md 0)), (1, .int (nI fr)), (2, .int ka), (3, .int kb), (4, .int kw), (5, .int (nI v))] → W p l e (headSpec (kWs yM_find cM_find 10 none) { frames := 0, cells := 0, slots := 0, locals := 0 }).room s m args below meth c H locs 0 0 Q (F0 m 322 ls [])) :
    ∀ (n k : Nat), k + n = N → ∀ (H : Heap) (locs : List Loc) (ls : Array Slot), va_P D vwCl [(md 0, .inr (5, [.int th, .int (nI N), .ref (md 1), .ref (md 2), .ref (md 3), .ref (md 4), .ref (md 5), .ref (md 6), .ref (md 7), .ref (md 8), .ref (md 9), .ref (md 10), .ref (md 11), .ref (md 12), .ref (md 13), .ref (md 14), .int (nI K), .ref (md 15), .ref (md 16), .ref (md 17), .int ib, .int ch, .int rs, .ref (md 18)])), (md 1, .inl (τ 0, 576, .inl xc)), (md 11, .inl (τ 0, 600, .inl lst)), (md 12, .inl (τ 0, 24, .inl ((kItr (mL5 lst v) k (gl, gh)).1))), (md 13, .inl (τ 0, 24, .inl ((kItr (mL5 lst v) k (gl, gh)).2))), (md 14, .inl (τ 0, 24, .inl fp))] H → va_D A [(md 0, .inr (5, [.int th, .int (nI N), .ref (md 1), .ref (md 2), .ref (md 3), .ref (md 4), .ref (md 5), .ref (md 6), .ref (md 7), .ref (md 8), .ref (md 9), .ref (md 10), .ref (md 11), .ref (md 12), .ref (md 13), .ref (md 14), .int (nI K), .ref (md 15), .ref (md 16), .ref (md 17), .int ib, .int ch, .int rs, .ref (md 18)])), (md 1, .inl (τ 0, 576, .inl xc)), (md 11, .inl (τ 0, 600, .inl lst)), (md 12, .inl (τ 0, 24, .inl ((kItr (mL5 lst v) k (gl, gh)).1))), (md 13, .inl (τ 0, 24, .inl ((kItr (mL5 lst v) k (gl, gh)).2))), (md 14, .inl (τ 0, 24, .inl fp))] → va_S A s.heap H locs → lv_has ls 10 [(0, .ref (md 0)), (1, .int (nI fr)), (2, .int ka), (3, .int kb), (4, .int kw), (5, .int (nI v)), (6, .int (nI k))] → W p l e (headSpec (kWs yM_find cM_find 10 none) { frames := 0, cells := 0, slots := 0, locals := 0 }).room s m args below meth c H locs 0 0 Q (F0 m 255 ls []) := by
  intro n
  induction n with
  | zero =>
    intro k hk H locs ls hP hD hS hl
    have hkN : N = k := by omega
    subst hkN
    revert hP hD hl
    generalize hst : (kItr (mL5 lst v) N (gl, gh)) = st
    intro hP hD hl
    obtain ⟨fl, fh⟩ := st
    have hP : va_P D vwCl [(md 0, .inr (5, [.int th, .int (nI N), .ref (md 1), .ref (md 2), .ref (md 3), .ref (md 4), .ref (md 5), .ref (md 6), .ref (md 7), .ref (md 8), .ref (md 9), .ref (md 10), .ref (md 11), .ref (md 12), .ref (md 13), .ref (md 14), .int (nI K), .ref (md 15), .ref (md 16), .ref (md 17), .int ib, .int ch, .int rs, .ref (md 18)])), (md 1, .inl (τ 0, 576, .inl xc)), (md 11, .inl (τ 0, 600, .inl lst)), (md 12, .inl (τ 0, 24, .inl fl)), (md 13, .inl (τ 0, 24, .inl fh)), (md 14, .inl (τ 0, 24, .inl fp))] H := hP
    have hD : va_D A [(md 0, .inr (5, [.int th, .int (nI N), .ref (md 1), .ref (md 2), .ref (md 3), .ref (md 4), .ref (md 5), .ref (md 6), .ref (md 7), .ref (md 8), .ref (md 9), .ref (md 10), .ref (md 11), .ref (md 12), .ref (md 13), .ref (md 14), .int (nI K), .ref (md 15), .ref (md 16), .ref (md 17), .int ib, .int ch, .int rs, .ref (md 18)])), (md 1, .inl (τ 0, 576, .inl xc)), (md 11, .inl (τ 0, 600, .inl lst)), (md 12, .inl (τ 0, 24, .inl fl)), (md 13, .inl (τ 0, 24, .inl fh)), (md 14, .inl (τ 0, 24, .inl fp))] := hD
    have hl : lv_has ls 10 [(0, .ref (md 0)), (1, .int (nI fr)), (2, .int ka), (3, .int kb), (4, .int kw), (5, .int (nI v)), (6, .int (nI N))] := hl
    refine lv_iload hx hb dM_find_255 (lv_at hl 6 rfl) ?_
    refine lv_aload_n hx hb dM_find_257 rfl (lv_at hl 0 rfl) ?_
    refine va_get (D := D) (ci := 5) (v := .int (nI N)) (C := RM) (T := TM) (N := 24) hx hb hts iM hown hK hP 0 rfl rfl 1 (by decide) (hts _ w_341) (fun _ h9 => h9) rfl dM_find_258 ?_
    refine lv_icmp_ge (tgt := 322) hx hb dM_find_261 (by decide) (fun c_261 => ?_) (fun c_261 => absurd (nI_le (Nat.le_refl _) (by omega)) c_261)
    exact kx H locs ls (by (try rw [hst]); exact hP) (by (try rw [hst]); exact hD) hS (by (try rw [hst]); exact lv_sub hl [0, 1, 2, 3, 4, 5] rfl)
  | succ n ih =>
    intro k hk H locs ls hP hD hS hl
    have hkN : k < N := by omega
    have ih := ih (k + 1) (by omega)
    rw [kItr_s] at ih
    revert hP hD hl ih
    generalize hst : (kItr (mL5 lst v) k (gl, gh)) = st
    intro hP hD hl ih
    obtain ⟨fl, fh⟩ := st
    have hP : va_P D vwCl [(md 0, .inr (5, [.int th, .int (nI N), .ref (md 1), .ref (md 2), .ref (md 3), .ref (md 4), .ref (md 5), .ref (md 6), .ref (md 7), .ref (md 8), .ref (md 9), .ref (md 10), .ref (md 11), .ref (md 12), .ref (md 13), .ref (md 14), .int (nI K), .ref (md 15), .ref (md 16), .ref (md 17), .int ib, .int ch, .int rs, .ref (md 18)])), (md 1, .inl (τ 0, 576, .inl xc)), (md 11, .inl (τ 0, 600, .inl lst)), (md 12, .inl (τ 0, 24, .inl fl)), (md 13, .inl (τ 0, 24, .inl fh)), (md 14, .inl (τ 0, 24, .inl fp))] H := hP
    have hD : va_D A [(md 0, .inr (5, [.int th, .int (nI N), .ref (md 1), .ref (md 2), .ref (md 3), .ref (md 4), .ref (md 5), .ref (md 6), .ref (md 7), .ref (md 8), .ref (md 9), .ref (md 10), .ref (md 11), .ref (md 12), .ref (md 13), .ref (md 14), .int (nI K), .ref (md 15), .ref (md 16), .ref (md 17), .int ib, .int ch, .int rs, .ref (md 18)])), (md 1, .inl (τ 0, 576, .inl xc)), (md 11, .inl (τ 0, 600, .inl lst)), (md 12, .inl (τ 0, 24, .inl fl)), (md 13, .inl (τ 0, 24, .inl fh)), (md 14, .inl (τ 0, 24, .inl fp))] := hD
    have hl : lv_has ls 10 [(0, .ref (md 0)), (1, .int (nI fr)), (2, .int ka), (3, .int kb), (4, .int kw), (5, .int (nI v)), (6, .int (nI k))] := hl
    refine lv_iload hx hb dM_find_255 (lv_at hl 6 rfl) ?_
    refine lv_aload_n hx hb dM_find_257 rfl (lv_at hl 0 rfl) ?_
    refine va_get (D := D) (ci := 5) (v := .int (nI N)) (C := RM) (T := TM) (N := 24) hx hb hts iM hown hK hP 0 rfl rfl 1 (by decide) (hts _ w_341) (fun _ h9 => h9) rfl dM_find_258 ?_
    refine lv_icmp_ge (tgt := 322) hx hb dM_find_261 (by decide) (fun c_261 => absurd c_261 (nI_ge hkN (by omega))) (fun c_261 => ?_)
    refine lv_aload_n hx hb dM_find_264 rfl (lv_at hl 0 rfl) ?_
    refine va_get (D := D) (ci := 5) (v := .ref (md 11)) (C := RM) (T := TM) (N := 24) hx hb hts iM hown hK hP 0 rfl rfl 12 (by decide) (hts _ w_352) (fun _ h9 => h9) rfl dM_find_265 ?_
    refine lv_bipush (v := 24) hx hb dM_find_268 (by decide) ?_
    refine lv_iload hx hb dM_find_270 (lv_at hl 6 rfl) ?_
    refine lv_imul hx hb dM_find_272 ?_
    refine lv_topi (fun y_ ey_ => ?_)
    obtain rfl : y_ = nI (k * 24) := ey_.trans (k_mulL 24 _ rfl)
    refine lv_iload hx hb dM_find_273 (lv_at hl 5 rfl) ?_
    refine lv_iadd hx hb dM_find_275 ?_
    refine lv_topi (fun y_ ey_ => ?_)
    obtain rfl : y_ = nI (k * 24 + v) := ey_.trans (nI_add _ _)
    refine ka_iald (k := k * 24 + v) hx hb hK hP 2 0 rfl rfl (by omega) (by omega) rfl dM_find_276 ?_
    refine lv_aload_n hx hb dM_find_277 rfl (lv_at hl 0 rfl) ?_
    refine va_get (D := D) (ci := 5) (v := .ref (md 12)) (C := RM) (T := TM) (N := 24) hx hb hts iM hown hK hP 0 rfl rfl 13 (by decide) (hts _ w_353) (fun _ h9 => h9) rfl dM_find_278 ?_
    refine lv_iload hx hb dM_find_281 (lv_at hl 5 rfl) ?_
    refine ka_iald (k := v) hx hb hK hP 3 0 rfl rfl (by omega) (by omega) rfl dM_find_283 ?_
    refine lv_icmp_ge (tgt := 316) hx hb dM_find_284 (by decide) (fun c_284 => ?_) (fun c_284 => ?_)
    · skip
      refine lv_iinc (v := nI (k + 1)) (lv' := [(6, .int (nI (k + 1))), (0, .ref (md 0)), (1, .int (nI fr)), (2, .int ka), (3, .int kb), (4, .int kw), (5, .int (nI v))]) hx hb dM_find_316 hl (k := 6) rfl (nI_1 _) (by decide) rfl (fun ls hl => ?_)
      refine lv_goto (tgt := 255) hx hb dM_find_319 (by decide) ?_
      have e_ : (mL5 lst v) k (fl, fh) = (fl, fh) := by unfold mL5; exact kIf_t c_284
      (try rw [e_] at ih)
      exact ih H locs ls hP hD hS (lv_sub hl [1, 2, 3, 4, 5, 6, 0] rfl)
    · skip
      refine lv_aload_n hx hb dM_find_287 rfl (lv_at hl 0 rfl) ?_
      refine va_get (D := D) (ci := 5) (v := .ref (md 12)) (C := RM) (T := TM) (N := 24) hx hb hts iM hown hK hP 0 rfl rfl 13 (by decide) (hts _ w_353) (fun _ h9 => h9) rfl dM_find_288 ?_
      refine lv_iload hx hb dM_find_291 (lv_at hl 5 rfl) ?_
      refine lv_aload_n hx hb dM_find_293 rfl (lv_at hl 0 rfl) ?_
      refine va_get (D := D) (ci := 5) (v := .ref (md 11)) (C := RM) (T := TM) (N := 24) hx hb hts iM hown hK hP 0 rfl rfl 12 (by decide) (hts _ w_352) (fun _ h9 => h9) rfl dM_find_294 ?_
      refine lv_bipush (v := 24) hx hb dM_find_297 (by decide) ?_
      refine lv_iload hx hb dM_find_299 (lv_at hl 6 rfl) ?_
      refine lv_imul hx hb dM_find_301 ?_
      refine lv_topi (fun y_ ey_ => ?_)
      obtain rfl : y_ = nI (k * 24) := ey_.trans (k_mulL 24 _ rfl)
      refine lv_iload hx hb dM_find_302 (lv_at hl 5 rfl) ?_
      refine lv_iadd hx hb dM_find_304 ?_
      refine lv_topi (fun y_ ey_ => ?_)
      obtain rfl : y_ = nI (k * 24 + v) := ey_.trans (nI_add _ _)
      refine ka_iald (k := k * 24 + v) hx hb hK hP 2 0 rfl rfl (by omega) (by omega) rfl dM_find_305 ?_
      refine ka_iast (k := v) hx hb hK hP hD hS 3 0 rfl rfl (by omega) (by omega) rfl dM_find_306 (fun H locs hP hD hS => ?_)
      have hP : va_P D vwCl [(md 0, .inr (5, [.int th, .int (nI N), .ref (md 1), .ref (md 2), .ref (md 3), .ref (md 4), .ref (md 5), .ref (md 6), .ref (md 7), .ref (md 8), .ref (md 9), .ref (md 10), .ref (md 11), .ref (md 12), .ref (md 13), .ref (md 14), .int (nI K), .ref (md 15), .ref (md 16), .ref (md 17), .int ib, .int ch, .int rs, .ref (md 18)])), (md 1, .inl (τ 0, 576, .inl xc)), (md 11, .inl (τ 0, 600, .inl lst)), (md 12, .inl (τ 0, 24, .inl (upd fl v (lst (k * 24 + v))))), (md 13, .inl (τ 0, 24, .inl fh)), (md 14, .inl (τ 0, 24, .inl fp))] H := hP
      have hD : va_D A [(md 0, .inr (5, [.int th, .int (nI N), .ref (md 1), .ref (md 2), .ref (md 3), .ref (md 4), .ref (md 5), .ref (md 6), .ref (md 7), .ref (md 8), .ref (md 9), .ref (md 10), .ref (md 11), .ref (md 12), .ref (md 13), .ref (md 14), .int (nI K), .ref (md 15), .ref (md 16), .ref (md 17), .int ib, .int ch, .int rs, .ref (md 18)])), (md 1, .inl (τ 0, 576, .inl xc)), (md 11, .inl (τ 0, 600, .inl lst)), (md 12, .inl (τ 0, 24, .inl (upd fl v (lst (k * 24 + v))))), (md 13, .inl (τ 0, 24, .inl fh)), (md 14, .inl (τ 0, 24, .inl fp))] := hD
      refine lv_aload_n hx hb dM_find_307 rfl (lv_at hl 0 rfl) ?_
      refine va_get (D := D) (ci := 5) (v := .ref (md 13)) (C := RM) (T := TM) (N := 24) hx hb hts iM hown hK hP 0 rfl rfl 14 (by decide) (hts _ w_354) (fun _ h9 => h9) rfl dM_find_308 ?_
      refine lv_iload hx hb dM_find_311 (lv_at hl 5 rfl) ?_
      refine lv_iload hx hb dM_find_313 (lv_at hl 6 rfl) ?_
      refine ka_iast (k := v) hx hb hK hP hD hS 4 0 rfl rfl (by omega) (by omega) rfl dM_find_315 (fun H locs hP hD hS => ?_)
      have hP : va_P D vwCl [(md 0, .inr (5, [.int th, .int (nI N), .ref (md 1), .ref (md 2), .ref (md 3), .ref (md 4), .ref (md 5), .ref (md 6), .ref (md 7), .ref (md 8), .ref (md 9), .ref (md 10), .ref (md 11), .ref (md 12), .ref (md 13), .ref (md 14), .int (nI K), .ref (md 15), .ref (md 16), .ref (md 17), .int ib, .int ch, .int rs, .ref (md 18)])), (md 1, .inl (τ 0, 576, .inl xc)), (md 11, .inl (τ 0, 600, .inl lst)), (md 12, .inl (τ 0, 24, .inl (upd fl v (lst (k * 24 + v))))), (md 13, .inl (τ 0, 24, .inl (upd fh v (nI k)))), (md 14, .inl (τ 0, 24, .inl fp))] H := hP
      have hD : va_D A [(md 0, .inr (5, [.int th, .int (nI N), .ref (md 1), .ref (md 2), .ref (md 3), .ref (md 4), .ref (md 5), .ref (md 6), .ref (md 7), .ref (md 8), .ref (md 9), .ref (md 10), .ref (md 11), .ref (md 12), .ref (md 13), .ref (md 14), .int (nI K), .ref (md 15), .ref (md 16), .ref (md 17), .int ib, .int ch, .int rs, .ref (md 18)])), (md 1, .inl (τ 0, 576, .inl xc)), (md 11, .inl (τ 0, 600, .inl lst)), (md 12, .inl (τ 0, 24, .inl (upd fl v (lst (k * 24 + v))))), (md 13, .inl (τ 0, 24, .inl (upd fh v (nI k)))), (md 14, .inl (τ 0, 24, .inl fp))] := hD
      refine lv_iinc (v := nI (k + 1)) (lv' := [(6, .int (nI (k + 1))), (0, .ref (md 0)), (1, .int (nI fr)), (2, .int ka), (3, .int kb), (4, .int kw), (5, .int (nI v))]) hx hb dM_find_316 hl (k := 6) rfl (nI_1 _) (by decide) rfl (fun ls hl => ?_)
      refine lv_goto (tgt := 255) hx hb dM_find_319 (by decide) ?_
      have e_ : (mL5 lst v) k (fl, fh) = (upd fl v (lst (k * 24 + v)), upd fh v (nI k)) := by unfold mL5; exact kIf_f c_284
      (try rw [e_] at ih)
      exact ih H locs ls hP hD hS (lv_sub hl [1, 2, 3, 4, 5, 6, 0] rfl)
set_option maxHeartbeats 4000000 in
set_option maxRecDepth 100000 in
theorem lm_4 {p : Program} {l : Launch} {e : Env} {s : State} {m : MethodId} {args : Array Value} {below : List Frame} {meth : Method} {c : Code} {Q : State → Prop} {D : va_G} {τ : Nat → ClassId} {A : Nat → Prop} (hx : p.tables.exec = Jvm.exec) (hb : c.code = cM_find) (hml : c.maxLocals = 10) (hown : s.vm.findClass RM = some m.cls) (hts : ∀ w ∈ kTbl, w.before args s = true) (hK : va_K D vwCl (kTys τ) s) (hA : ∀ q : Nat, s.heap.size ≤ q → A q) (md : Nat → Nat) (th : Int32) (N : Nat) (K : Nat) (ib : Int32) (ch : Int32) (rs : Int32) (xc : Nat → Int32) (lst : Nat → Int32) (fr : Nat) (ka : Int32) (kb : Int32) (kw : Int32) (gl : Nat → Int32) (gh : Nat → Int32) (gp : Nat → Int32) (hN : N ≤ 24)
    (kx : ∀ (H : Heap) (locs : List Loc) (ls : Array Slot), va_P D vwCl [(md 0, .inr (5, [.int th, .int (nI N), .ref (md 1), .ref (md 2), .ref (md 3), .ref (md 4), .ref (md 5), .ref (md 6), .ref (md 7), .ref (md 8), .ref (md 9), .ref (md 10), .ref (md 11), .ref (md 12), .ref (md 13), .ref (md 14), .int (nI K), .ref (md 15), .ref (md 16), .ref (md 17), .int ib, .int ch, .int rs, .ref (md 18)])), (md 1, .inl (τ 0, 576, .inl xc)), (md 11, .inl (τ 0, 600, .inl lst)), (md 12, .inl (τ 0, 24, .inl ((kItr (mL4 N lst) N (gl, gh, gp)).1))), (md 13, .inl (τ 0, 24, .inl ((kItr (mL4 N lst) N (gl, gh, gp)).2.1))), (md 14, .inl (τ 0, 24, .inl ((kItr (mL4 N lst) N (gl, gh, gp)).2.2)))] H → va_D A [(md 0, .inr (5, [.int th, .int (nI N), .ref (md 1), .ref (md 2), .ref (md 3), .ref (md 4), .ref (md 5), .ref (md 6), .ref (md 7), .ref (md 8), .ref (md 9), .ref (md 10), .ref (md 11), .ref (md 12), .ref (md 13), .ref (md 14), .int (nI K), .ref (md 15), .ref (md 16), .ref (md 17), .int ib, .int ch, .int rs, .ref (md 18)])), (md 1, .inl (τ 0, 576, .inl xc)), (md 11, .inl (τ 0, 600, .inl lst)), (md 12, .inl (τ 0, 24, .inl ((kItr (mL4 N lst) N (gl, gh, gp)).1))), (md 13, .inl (τ 0, 24, .inl ((kItr (mL4 N lst) N (gl, gh, gp)).2.1))), (md 14, .inl (τ 0, 24, .inl ((kItr (mL4 N lst) N (gl, gh, gp)).2.2)))] → va_S A s.heap H locs → lv_has ls 10 [(0, .ref (md 0)), (1, .int (nI fr)), (2, .int ka), (3, .int kb), (4, .int kw)] → W p l e (headSpec (kWs yM_find cM_find 10 none) { frames := 0, cells := 0, slots := 0, locals := 0 }).room s m args below meth c H locs 0 0 Q (F0 m 328 ls [])) :
    ∀ (n k : Nat), k + n = N → ∀ (H : Heap) (locs : List Loc) (ls : Array Slot), va_P D vwCl [(md 0, .inr (5, [.int th, .int (nI N), .ref (md 1), .ref (md 2), .ref (md 3), .ref (md 4), .ref (md 5), .ref (md 6), .ref (md 7), .ref (md 8), .ref (md 9), .ref (md 10), .ref (md 11), .ref (md 12), .ref (md 13), .ref (md 14), .int (nI K), .ref (md 15), .ref (md 16), .ref (md 17), .int ib, .int ch, .int rs, .ref (md 18)])), (md 1, .inl (τ 0, 576, .inl xc)), (md 11, .inl (τ 0, 600, .inl lst)), (md 12, .inl (τ 0, 24, .inl ((kItr (mL4 N lst) k (gl, gh, gp)).1))), (md 13, .inl (τ 0, 24, .inl ((kItr (mL4 N lst) k (gl, gh, gp)).2.1))), (md 14, .inl (τ 0, 24, .inl ((kItr (mL4 N lst) k (gl, gh, gp)).2.2)))] H → va_D A [(md 0, .inr (5, [.int th, .int (nI N), .ref (md 1), .ref (md 2), .ref (md 3), .ref (md 4), .ref (md 5), .ref (md 6), .ref (md 7), .ref (md 8), .ref (md 9), .ref (md 10), .ref (md 11), .ref (md 12), .ref (md 13), .ref (md 14), .int (nI K), .ref (md 15), .ref (md 16), .ref (md 17), .int ib, .int ch, .int rs, .ref (md 18)])), (md 1, .inl (τ 0, 576, .inl xc)), (md 11, .inl (τ 0, 600, .inl lst)), (md 12, .inl (τ 0, 24, .inl ((kItr (mL4 N lst) k (gl, gh, gp)).1))), (md 13, .inl (τ 0, 24, .inl ((kItr (mL4 N lst) k (gl, gh, gp)).2.1))), (md 14, .inl (τ 0, 24, .inl ((kItr (mL4 N lst) k (gl, gh, gp)).2.2)))] → va_S A s.heap H locs → lv_has ls 10 [(0, .ref (md 0)), (1, .int (nI fr)), (2, .int ka), (3, .int kb), (4, .int kw), (5, .int (nI k))] → W p l e (headSpec (kWs yM_find cM_find 10 none) { frames := 0, cells := 0, slots := 0, locals := 0 }).room s m args below meth c H locs 0 0 Q (F0 m 216 ls []) := by
  intro n
  induction n with
  | zero =>
    intro k hk H locs ls hP hD hS hl
    have hkN : N = k := by omega
    subst hkN
    revert hP hD hl
    generalize hst : (kItr (mL4 N lst) N (gl, gh, gp)) = st
    intro hP hD hl
    obtain ⟨fl, fh, fp⟩ := st
    have hP : va_P D vwCl [(md 0, .inr (5, [.int th, .int (nI N), .ref (md 1), .ref (md 2), .ref (md 3), .ref (md 4), .ref (md 5), .ref (md 6), .ref (md 7), .ref (md 8), .ref (md 9), .ref (md 10), .ref (md 11), .ref (md 12), .ref (md 13), .ref (md 14), .int (nI K), .ref (md 15), .ref (md 16), .ref (md 17), .int ib, .int ch, .int rs, .ref (md 18)])), (md 1, .inl (τ 0, 576, .inl xc)), (md 11, .inl (τ 0, 600, .inl lst)), (md 12, .inl (τ 0, 24, .inl fl)), (md 13, .inl (τ 0, 24, .inl fh)), (md 14, .inl (τ 0, 24, .inl fp))] H := hP
    have hD : va_D A [(md 0, .inr (5, [.int th, .int (nI N), .ref (md 1), .ref (md 2), .ref (md 3), .ref (md 4), .ref (md 5), .ref (md 6), .ref (md 7), .ref (md 8), .ref (md 9), .ref (md 10), .ref (md 11), .ref (md 12), .ref (md 13), .ref (md 14), .int (nI K), .ref (md 15), .ref (md 16), .ref (md 17), .int ib, .int ch, .int rs, .ref (md 18)])), (md 1, .inl (τ 0, 576, .inl xc)), (md 11, .inl (τ 0, 600, .inl lst)), (md 12, .inl (τ 0, 24, .inl fl)), (md 13, .inl (τ 0, 24, .inl fh)), (md 14, .inl (τ 0, 24, .inl fp))] := hD
    have hl : lv_has ls 10 [(0, .ref (md 0)), (1, .int (nI fr)), (2, .int ka), (3, .int kb), (4, .int kw), (5, .int (nI N))] := hl
    refine lv_iload hx hb dM_find_216 (lv_at hl 5 rfl) ?_
    refine lv_aload_n hx hb dM_find_218 rfl (lv_at hl 0 rfl) ?_
    refine va_get (D := D) (ci := 5) (v := .int (nI N)) (C := RM) (T := TM) (N := 24) hx hb hts iM hown hK hP 0 rfl rfl 1 (by decide) (hts _ w_341) (fun _ h9 => h9) rfl dM_find_219 ?_
    refine lv_icmp_ge (tgt := 328) hx hb dM_find_222 (by decide) (fun c_222 => ?_) (fun c_222 => absurd (nI_le (Nat.le_refl _) (by omega)) c_222)
    exact kx H locs ls (by (try rw [hst]); exact hP) (by (try rw [hst]); exact hD) hS (by (try rw [hst]); exact lv_sub hl [0, 1, 2, 3, 4] rfl)
  | succ n ih =>
    intro k hk H locs ls hP hD hS hl
    have hkN : k < N := by omega
    have ih := ih (k + 1) (by omega)
    rw [kItr_s] at ih
    revert hP hD hl ih
    generalize hst : (kItr (mL4 N lst) k (gl, gh, gp)) = st
    intro hP hD hl ih
    obtain ⟨fl, fh, fp⟩ := st
    have hP : va_P D vwCl [(md 0, .inr (5, [.int th, .int (nI N), .ref (md 1), .ref (md 2), .ref (md 3), .ref (md 4), .ref (md 5), .ref (md 6), .ref (md 7), .ref (md 8), .ref (md 9), .ref (md 10), .ref (md 11), .ref (md 12), .ref (md 13), .ref (md 14), .int (nI K), .ref (md 15), .ref (md 16), .ref (md 17), .int ib, .int ch, .int rs, .ref (md 18)])), (md 1, .inl (τ 0, 576, .inl xc)), (md 11, .inl (τ 0, 600, .inl lst)), (md 12, .inl (τ 0, 24, .inl fl)), (md 13, .inl (τ 0, 24, .inl fh)), (md 14, .inl (τ 0, 24, .inl fp))] H := hP
    have hD : va_D A [(md 0, .inr (5, [.int th, .int (nI N), .ref (md 1), .ref (md 2), .ref (md 3), .ref (md 4), .ref (md 5), .ref (md 6), .ref (md 7), .ref (md 8), .ref (md 9), .ref (md 10), .ref (md 11), .ref (md 12), .ref (md 13), .ref (md 14), .int (nI K), .ref (md 15), .ref (md 16), .ref (md 17), .int ib, .int ch, .int rs, .ref (md 18)])), (md 1, .inl (τ 0, 576, .inl xc)), (md 11, .inl (τ 0, 600, .inl lst)), (md 12, .inl (τ 0, 24, .inl fl)), (md 13, .inl (τ 0, 24, .inl fh)), (md 14, .inl (τ 0, 24, .inl fp))] := hD
    have hl : lv_has ls 10 [(0, .ref (md 0)), (1, .int (nI fr)), (2, .int ka), (3, .int kb), (4, .int kw), (5, .int (nI k))] := hl
    refine lv_iload hx hb dM_find_216 (lv_at hl 5 rfl) ?_
    refine lv_aload_n hx hb dM_find_218 rfl (lv_at hl 0 rfl) ?_
    refine va_get (D := D) (ci := 5) (v := .int (nI N)) (C := RM) (T := TM) (N := 24) hx hb hts iM hown hK hP 0 rfl rfl 1 (by decide) (hts _ w_341) (fun _ h9 => h9) rfl dM_find_219 ?_
    refine lv_icmp_ge (tgt := 328) hx hb dM_find_222 (by decide) (fun c_222 => absurd c_222 (nI_ge hkN (by omega))) (fun c_222 => ?_)
    refine lv_aload_n hx hb dM_find_225 rfl (lv_at hl 0 rfl) ?_
    refine va_get (D := D) (ci := 5) (v := .ref (md 12)) (C := RM) (T := TM) (N := 24) hx hb hts iM hown hK hP 0 rfl rfl 13 (by decide) (hts _ w_353) (fun _ h9 => h9) rfl dM_find_226 ?_
    refine lv_iload hx hb dM_find_229 (lv_at hl 5 rfl) ?_
    refine lv_ldc (v := 1000000) hx hb hown (hts _ w_330) dM_find_231 ?_
    refine ka_iast (k := k) hx hb hK hP hD hS 3 0 rfl rfl (by omega) (by omega) rfl dM_find_233 (fun H locs hP hD hS => ?_)
    have hP : va_P D vwCl [(md 0, .inr (5, [.int th, .int (nI N), .ref (md 1), .ref (md 2), .ref (md 3), .ref (md 4), .ref (md 5), .ref (md 6), .ref (md 7), .ref (md 8), .ref (md 9), .ref (md 10), .ref (md 11), .ref (md 12), .ref (md 13), .ref (md 14), .int (nI K), .ref (md 15), .ref (md 16), .ref (md 17), .int ib, .int ch, .int rs, .ref (md 18)])), (md 1, .inl (τ 0, 576, .inl xc)), (md 11, .inl (τ 0, 600, .inl lst)), (md 12, .inl (τ 0, 24, .inl (upd fl k 1000000))), (md 13, .inl (τ 0, 24, .inl fh)), (md 14, .inl (τ 0, 24, .inl fp))] H := hP
    have hD : va_D A [(md 0, .inr (5, [.int th, .int (nI N), .ref (md 1), .ref (md 2), .ref (md 3), .ref (md 4), .ref (md 5), .ref (md 6), .ref (md 7), .ref (md 8), .ref (md 9), .ref (md 10), .ref (md 11), .ref (md 12), .ref (md 13), .ref (md 14), .int (nI K), .ref (md 15), .ref (md 16), .ref (md 17), .int ib, .int ch, .int rs, .ref (md 18)])), (md 1, .inl (τ 0, 576, .inl xc)), (md 11, .inl (τ 0, 600, .inl lst)), (md 12, .inl (τ 0, 24, .inl (upd fl k 1000000))), (md 13, .inl (τ 0, 24, .inl fh)), (md 14, .inl (τ 0, 24, .inl fp))] := hD
    refine lv_aload_n hx hb dM_find_234 rfl (lv_at hl 0 rfl) ?_
    refine va_get (D := D) (ci := 5) (v := .ref (md 13)) (C := RM) (T := TM) (N := 24) hx hb hts iM hown hK hP 0 rfl rfl 14 (by decide) (hts _ w_354) (fun _ h9 => h9) rfl dM_find_235 ?_
    refine lv_iload hx hb dM_find_238 (lv_at hl 5 rfl) ?_
    refine lv_ldc (v := (-1000000)) hx hb hown (hts _ w_335) dM_find_240 ?_
    refine ka_iast (k := k) hx hb hK hP hD hS 4 0 rfl rfl (by omega) (by omega) rfl dM_find_242 (fun H locs hP hD hS => ?_)
    have hP : va_P D vwCl [(md 0, .inr (5, [.int th, .int (nI N), .ref (md 1), .ref (md 2), .ref (md 3), .ref (md 4), .ref (md 5), .ref (md 6), .ref (md 7), .ref (md 8), .ref (md 9), .ref (md 10), .ref (md 11), .ref (md 12), .ref (md 13), .ref (md 14), .int (nI K), .ref (md 15), .ref (md 16), .ref (md 17), .int ib, .int ch, .int rs, .ref (md 18)])), (md 1, .inl (τ 0, 576, .inl xc)), (md 11, .inl (τ 0, 600, .inl lst)), (md 12, .inl (τ 0, 24, .inl (upd fl k 1000000))), (md 13, .inl (τ 0, 24, .inl (upd fh k (-1000000)))), (md 14, .inl (τ 0, 24, .inl fp))] H := hP
    have hD : va_D A [(md 0, .inr (5, [.int th, .int (nI N), .ref (md 1), .ref (md 2), .ref (md 3), .ref (md 4), .ref (md 5), .ref (md 6), .ref (md 7), .ref (md 8), .ref (md 9), .ref (md 10), .ref (md 11), .ref (md 12), .ref (md 13), .ref (md 14), .int (nI K), .ref (md 15), .ref (md 16), .ref (md 17), .int ib, .int ch, .int rs, .ref (md 18)])), (md 1, .inl (τ 0, 576, .inl xc)), (md 11, .inl (τ 0, 600, .inl lst)), (md 12, .inl (τ 0, 24, .inl (upd fl k 1000000))), (md 13, .inl (τ 0, 24, .inl (upd fh k (-1000000)))), (md 14, .inl (τ 0, 24, .inl fp))] := hD
    refine lv_aload_n hx hb dM_find_243 rfl (lv_at hl 0 rfl) ?_
    refine va_get (D := D) (ci := 5) (v := .ref (md 14)) (C := RM) (T := TM) (N := 24) hx hb hts iM hown hK hP 0 rfl rfl 15 (by decide) (hts _ w_355) (fun _ h9 => h9) rfl dM_find_244 ?_
    refine lv_iload hx hb dM_find_247 (lv_at hl 5 rfl) ?_
    refine lv_ldc (v := (-1000000)) hx hb hown (hts _ w_335) dM_find_249 ?_
    refine ka_iast (k := k) hx hb hK hP hD hS 5 0 rfl rfl (by omega) (by omega) rfl dM_find_251 (fun H locs hP hD hS => ?_)
    have hP : va_P D vwCl [(md 0, .inr (5, [.int th, .int (nI N), .ref (md 1), .ref (md 2), .ref (md 3), .ref (md 4), .ref (md 5), .ref (md 6), .ref (md 7), .ref (md 8), .ref (md 9), .ref (md 10), .ref (md 11), .ref (md 12), .ref (md 13), .ref (md 14), .int (nI K), .ref (md 15), .ref (md 16), .ref (md 17), .int ib, .int ch, .int rs, .ref (md 18)])), (md 1, .inl (τ 0, 576, .inl xc)), (md 11, .inl (τ 0, 600, .inl lst)), (md 12, .inl (τ 0, 24, .inl (upd fl k 1000000))), (md 13, .inl (τ 0, 24, .inl (upd fh k (-1000000)))), (md 14, .inl (τ 0, 24, .inl (upd fp k (-1000000))))] H := hP
    have hD : va_D A [(md 0, .inr (5, [.int th, .int (nI N), .ref (md 1), .ref (md 2), .ref (md 3), .ref (md 4), .ref (md 5), .ref (md 6), .ref (md 7), .ref (md 8), .ref (md 9), .ref (md 10), .ref (md 11), .ref (md 12), .ref (md 13), .ref (md 14), .int (nI K), .ref (md 15), .ref (md 16), .ref (md 17), .int ib, .int ch, .int rs, .ref (md 18)])), (md 1, .inl (τ 0, 576, .inl xc)), (md 11, .inl (τ 0, 600, .inl lst)), (md 12, .inl (τ 0, 24, .inl (upd fl k 1000000))), (md 13, .inl (τ 0, 24, .inl (upd fh k (-1000000)))), (md 14, .inl (τ 0, 24, .inl (upd fp k (-1000000))))] := hD
    refine lv_iconst (v := 0) hx hb dM_find_252 (by decide) ?_
    refine lv_istore (lv' := [(6, .int 0), (0, .ref (md 0)), (1, .int (nI fr)), (2, .int ka), (3, .int kb), (4, .int kw), (5, .int (nI k))]) hx hb dM_find_253 hl (by decide) rfl (fun ls hl => ?_)
    refine lm_5 hx hb hml hown hts hK hA md th N K ib ch rs xc lst (upd fp k (-1000000)) fr ka kb kw k (upd fl k 1000000) (upd fh k (-1000000)) (by first | assumption | omega) (by first | assumption | omega) (fun H locs ls hP hD hS hl => ?_) N 0 (by omega) _ _ ls hP hD hS (lv_sub hl [1, 2, 3, 4, 5, 6, 0] rfl)
    refine lv_iinc (v := nI (k + 1)) (lv' := [(5, .int (nI (k + 1))), (0, .ref (md 0)), (1, .int (nI fr)), (2, .int ka), (3, .int kb), (4, .int kw)]) hx hb dM_find_322 hl (k := 5) rfl (nI_1 _) (by decide) rfl (fun ls hl => ?_)
    refine lv_goto (tgt := 216) hx hb dM_find_325 (by decide) ?_
    have e_ : (mL4 N lst) k (fl, fh, fp) = ((kItr (mL5 lst k) (N) ((upd fl k 1000000), (upd fh k (-1000000)))).1, (kItr (mL5 lst k) (N) ((upd fl k 1000000), (upd fh k (-1000000)))).2, (upd fp k (-1000000))) := by rfl
    (try rw [e_] at ih)
    exact ih H locs ls hP hD hS (lv_sub hl [1, 2, 3, 4, 5, 0] rfl)
set_option maxHeartbeats 4000000 in
set_option maxRecDepth 100000 in
theorem lm_7 {p : Program} {l : Launch} {e : Env} {s : State} {m : MethodId} {args : Array Value} {below : List Frame} {meth : Method} {c : Code} {Q : State → Prop} {D : va_G} {τ : Nat → ClassId} {A : Nat → Prop} (hx : p.tables.exec = Jvm.exec) (hb : c.code = cM_find) (hml : c.maxLocals = 10) (hown : s.vm.findClass RM = some m.cls) (hts : ∀ w ∈ kTbl, w.before args s = true) (hK : va_K D vwCl (kTys τ) s) (hA : ∀ q : Nat, s.heap.size ≤ q → A q) (md : Nat → Nat) (th : Int32) (N : Nat) (K : Nat) (ib : Int32) (ch : Int32) (rs : Int32) (xc : Nat → Int32) (lst : Nat → Int32) (fl : Nat → Int32) (fh : Nat → Int32) (fr : Nat) (ka : Int32) (kb : Int32) (kw : Int32) (v : Nat) (g : Nat → Int32) (hN : N ≤ 24) (hv : v < N) (hfr : fr < 24) (hvf : ¬ v = fr)
    (kx : ∀ (H : Heap) (locs : List Loc) (ls : Array Slot), va_P D vwCl [(md 0, .inr (5, [.int th, .int (nI N), .ref (md 1), .ref (md 2), .ref (md 3), .ref (md 4), .ref (md 5), .ref (md 6), .ref (md 7), .ref (md 8), .ref (md 9), .ref (md 10), .ref (md 11), .ref (md 12), .ref (md 13), .ref (md 14), .int (nI K), .ref (md 15), .ref (md 16), .ref (md 17), .int ib, .int ch, .int rs, .ref (md 18)])), (md 1, .inl (τ 0, 576, .inl xc)), (md 11, .inl (τ 0, 600, .inl lst)), (md 12, .inl (τ 0, 24, .inl fl)), (md 13, .inl (τ 0, 24, .inl fh)), (md 14, .inl (τ 0, 24, .inl (kItr (mL7 N xc fl fh v) N (g))))] H → va_D A [(md 0, .inr (5, [.int th, .int (nI N), .ref (md 1), .ref (md 2), .ref (md 3), .ref (md 4), .ref (md 5), .ref (md 6), .ref (md 7), .ref (md 8), .ref (md 9), .ref (md 10), .ref (md 11), .ref (md 12), .ref (md 13), .ref (md 14), .int (nI K), .ref (md 15), .ref (md 16), .ref (md 17), .int ib, .int ch, .int rs, .ref (md 18)])), (md 1, .inl (τ 0, 576, .inl xc)), (md 11, .inl (τ 0, 600, .inl lst)), (md 12, .inl (τ 0, 24, .inl fl)), (md 13, .inl (τ 0, 24, .inl fh)), (md 14, .inl (τ 0, 24, .inl (kItr (mL7 N xc fl fh v) N (g))))] → va_S A s.heap H locs → lv_has ls 10 [(0, .ref (md 0)), (1, .int (nI fr)), (2, .int ka), (3, .int kb), (4, .int kw), (5, .int (nI v))] → W p l e (headSpec (kWs yM_find cM_find 10 none) { frames := 0, cells := 0, slots := 0, locals := 0 }).room s m args below meth c H locs 0 0 Q (F0 m 476 ls [])) :
    ∀ (n k : Nat), k + n = N → ∀ (H : Heap) (locs : List Loc) (ls : Array Slot), va_P D vwCl [(md 0, .inr (5, [.int th, .int (nI N), .ref (md 1), .ref (md 2), .ref (md 3), .ref (md 4), .ref (md 5), .ref (md 6), .ref (md 7), .ref (md 8), .ref (md 9), .ref (md 10), .ref (md 11), .ref (md 12), .ref (md 13), .ref (md 14), .int (nI K), .ref (md 15), .ref (md 16), .ref (md 17), .int ib, .int ch, .int rs, .ref (md 18)])), (md 1, .inl (τ 0, 576, .inl xc)), (md 11, .inl (τ 0, 600, .inl lst)), (md 12, .inl (τ 0, 24, .inl fl)), (md 13, .inl (τ 0, 24, .inl fh)), (md 14, .inl (τ 0, 24, .inl (kItr (mL7 N xc fl fh v) k (g))))] H → va_D A [(md 0, .inr (5, [.int th, .int (nI N), .ref (md 1), .ref (md 2), .ref (md 3), .ref (md 4), .ref (md 5), .ref (md 6), .ref (md 7), .ref (md 8), .ref (md 9), .ref (md 10), .ref (md 11), .ref (md 12), .ref (md 13), .ref (md 14), .int (nI K), .ref (md 15), .ref (md 16), .ref (md 17), .int ib, .int ch, .int rs, .ref (md 18)])), (md 1, .inl (τ 0, 576, .inl xc)), (md 11, .inl (τ 0, 600, .inl lst)), (md 12, .inl (τ 0, 24, .inl fl)), (md 13, .inl (τ 0, 24, .inl fh)), (md 14, .inl (τ 0, 24, .inl (kItr (mL7 N xc fl fh v) k (g))))] → va_S A s.heap H locs → lv_has ls 10 [(0, .ref (md 0)), (1, .int (nI fr)), (2, .int ka), (3, .int kb), (4, .int kw), (5, .int (nI v)), (6, .int (nI (N - k) - 1))] → W p l e (headSpec (kWs yM_find cM_find 10 none) { frames := 0, cells := 0, slots := 0, locals := 0 }).room s m args below meth c H locs 0 0 Q (F0 m 348 ls []) := by
  intro n
  induction n with
  | zero =>
    intro k hk H locs ls hP hD hS hl
    have hkN : N = k := by omega
    subst hkN
    revert hP hD hl
    generalize hst : (kItr (mL7 N xc fl fh v) N (g)) = fp
    intro hP hD hl
    have hP : va_P D vwCl [(md 0, .inr (5, [.int th, .int (nI N), .ref (md 1), .ref (md 2), .ref (md 3), .ref (md 4), .ref (md 5), .ref (md 6), .ref (md 7), .ref (md 8), .ref (md 9), .ref (md 10), .ref (md 11), .ref (md 12), .ref (md 13), .ref (md 14), .int (nI K), .ref (md 15), .ref (md 16), .ref (md 17), .int ib, .int ch, .int rs, .ref (md 18)])), (md 1, .inl (τ 0, 576, .inl xc)), (md 11, .inl (τ 0, 600, .inl lst)), (md 12, .inl (τ 0, 24, .inl fl)), (md 13, .inl (τ 0, 24, .inl fh)), (md 14, .inl (τ 0, 24, .inl fp))] H := hP
    have hD : va_D A [(md 0, .inr (5, [.int th, .int (nI N), .ref (md 1), .ref (md 2), .ref (md 3), .ref (md 4), .ref (md 5), .ref (md 6), .ref (md 7), .ref (md 8), .ref (md 9), .ref (md 10), .ref (md 11), .ref (md 12), .ref (md 13), .ref (md 14), .int (nI K), .ref (md 15), .ref (md 16), .ref (md 17), .int ib, .int ch, .int rs, .ref (md 18)])), (md 1, .inl (τ 0, 576, .inl xc)), (md 11, .inl (τ 0, 600, .inl lst)), (md 12, .inl (τ 0, 24, .inl fl)), (md 13, .inl (τ 0, 24, .inl fh)), (md 14, .inl (τ 0, 24, .inl fp))] := hD
    have hl : lv_has ls 10 [(0, .ref (md 0)), (1, .int (nI fr)), (2, .int ka), (3, .int kb), (4, .int kw), (5, .int (nI v)), (6, .int (nI (N - N) - 1))] := hl
    refine lv_iload hx hb dM_find_348 (lv_at hl 6 rfl) ?_
    refine lv_if_lt (tgt := 476) hx hb dM_find_350 (by decide) (fun c_350 => ?_) (fun c_350 => absurd (by rw [Nat.sub_self]; decide) c_350)
    exact kx H locs ls (by (try rw [hst]); exact hP) (by (try rw [hst]); exact hD) hS (by (try rw [hst]); exact lv_sub hl [0, 1, 2, 3, 4, 5] rfl)
  | succ n ih =>
    intro k hk H locs ls hP hD hS hl
    have hkN : k < N := by omega
    have ih := ih (k + 1) (by omega)
    rw [kItr_s] at ih
    revert hP hD hl ih
    generalize hst : (kItr (mL7 N xc fl fh v) k (g)) = fp
    intro hP hD hl ih
    have hP : va_P D vwCl [(md 0, .inr (5, [.int th, .int (nI N), .ref (md 1), .ref (md 2), .ref (md 3), .ref (md 4), .ref (md 5), .ref (md 6), .ref (md 7), .ref (md 8), .ref (md 9), .ref (md 10), .ref (md 11), .ref (md 12), .ref (md 13), .ref (md 14), .int (nI K), .ref (md 15), .ref (md 16), .ref (md 17), .int ib, .int ch, .int rs, .ref (md 18)])), (md 1, .inl (τ 0, 576, .inl xc)), (md 11, .inl (τ 0, 600, .inl lst)), (md 12, .inl (τ 0, 24, .inl fl)), (md 13, .inl (τ 0, 24, .inl fh)), (md 14, .inl (τ 0, 24, .inl fp))] H := hP
    have hD : va_D A [(md 0, .inr (5, [.int th, .int (nI N), .ref (md 1), .ref (md 2), .ref (md 3), .ref (md 4), .ref (md 5), .ref (md 6), .ref (md 7), .ref (md 8), .ref (md 9), .ref (md 10), .ref (md 11), .ref (md 12), .ref (md 13), .ref (md 14), .int (nI K), .ref (md 15), .ref (md 16), .ref (md 17), .int ib, .int ch, .int rs, .ref (md 18)])), (md 1, .inl (τ 0, 576, .inl xc)), (md 11, .inl (τ 0, 600, .inl lst)), (md 12, .inl (τ 0, 24, .inl fl)), (md 13, .inl (τ 0, 24, .inl fh)), (md 14, .inl (τ 0, 24, .inl fp))] := hD
    have hl : lv_has ls 10 [(0, .ref (md 0)), (1, .int (nI fr)), (2, .int ka), (3, .int kb), (4, .int kw), (5, .int (nI v)), (6, .int (nI (N - k) - 1))] := hl
    have e3_ : nI (N - k) - 1 = nI (N - k - 1) := pk_sub (b := 1) (by omega)
    rw [e3_] at hl
    refine lv_iload hx hb dM_find_348 (lv_at hl 6 rfl) ?_
    refine lv_if_lt (tgt := 476) hx hb dM_find_350 (by decide) (fun c_350 => absurd c_350 (nI_pos (by omega))) (fun c_350 => ?_)
    refine lv_iload hx hb dM_find_353 (lv_at hl 5 rfl) ?_
    refine lv_iload_n hx hb dM_find_355 rfl (lv_at hl 1 rfl) ?_
    refine lv_icmp_eq (tgt := 476) hx hb dM_find_356 (by decide) (fun c_356 => absurd ((nI_eq (by omega) (by omega)).mp c_356) hvf) (fun c_356 => ?_)
    refine lv_aload_n hx hb dM_find_359 rfl (lv_at hl 0 rfl) ?_
    refine va_get (D := D) (ci := 5) (v := .ref (md 12)) (C := RM) (T := TM) (N := 24) hx hb hts iM hown hK hP 0 rfl rfl 13 (by decide) (hts _ w_353) (fun _ h9 => h9) rfl dM_find_360 ?_
    refine lv_iload hx hb dM_find_363 (lv_at hl 6 rfl) ?_
    refine ka_iald (k := N - k - 1) hx hb hK hP 3 0 rfl rfl (by omega) (by omega) rfl dM_find_365 ?_
    refine lv_ldc (v := 1000000) hx hb hown (hts _ w_330) dM_find_366 ?_
    refine lv_icmp_eq (tgt := 424) hx hb dM_find_368 (by decide) (fun c_368 => ?_) (fun c_368 => ?_)
    · skip
      refine lv_iconst (v := 0) hx hb dM_find_424 (by decide) ?_
      refine lv_istore (lv' := [(7, .int 0), (0, .ref (md 0)), (1, .int (nI fr)), (2, .int ka), (3, .int kb), (4, .int kw), (5, .int (nI v)), (6, .int (nI (N - k - 1)))]) hx hb dM_find_425 hl (by decide) rfl (fun ls hl => ?_)
      refine lv_aload_n hx hb dM_find_427 rfl (lv_at hl 1 rfl) ?_
      refine va_get (D := D) (ci := 5) (v := .ref (md 14)) (C := RM) (T := TM) (N := 24) hx hb hts iM hown hK hP 0 rfl rfl 15 (by decide) (hts _ w_355) (fun _ h9 => h9) rfl dM_find_428 ?_
      refine lv_iload hx hb dM_find_431 (lv_at hl 6 rfl) ?_
      refine lv_iload hx hb dM_find_433 (lv_at hl 0 rfl) ?_
      refine lv_if_eq (tgt := 462) hx hb dM_find_435 (by decide) (fun c_435 => ?_) (fun c_435 => absurd c_435 (by decide))
      refine lv_aload_n hx hb dM_find_462 rfl (lv_at hl 1 rfl) ?_
      refine va_get (D := D) (ci := 5) (v := .ref (md 14)) (C := RM) (T := TM) (N := 24) hx hb hts iM hown hK hP 0 rfl rfl 15 (by decide) (hts _ w_355) (fun _ h9 => h9) rfl dM_find_463 ?_
      refine lv_iload hx hb dM_find_466 (lv_at hl 6 rfl) ?_
      refine ka_iald (k := v) hx hb hK hP 5 0 rfl rfl (by omega) (by omega) rfl dM_find_468 ?_
      refine ka_iast (k := v) hx hb hK hP hD hS 5 0 rfl rfl (by omega) (by omega) rfl dM_find_469 (fun H locs hP hD hS => ?_)
      have hP : va_P D vwCl [(md 0, .inr (5, [.int th, .int (nI N), .ref (md 1), .ref (md 2), .ref (md 3), .ref (md 4), .ref (md 5), .ref (md 6), .ref (md 7), .ref (md 8), .ref (md 9), .ref (md 10), .ref (md 11), .ref (md 12), .ref (md 13), .ref (md 14), .int (nI K), .ref (md 15), .ref (md 16), .ref (md 17), .int ib, .int ch, .int rs, .ref (md 18)])), (md 1, .inl (τ 0, 576, .inl xc)), (md 11, .inl (τ 0, 600, .inl lst)), (md 12, .inl (τ 0, 24, .inl fl)), (md 13, .inl (τ 0, 24, .inl fh)), (md 14, .inl (τ 0, 24, .inl (upd fp v (fp v))))] H := hP
      have hD : va_D A [(md 0, .inr (5, [.int th, .int (nI N), .ref (md 1), .ref (md 2), .ref (md 3), .ref (md 4), .ref (md 5), .ref (md 6), .ref (md 7), .ref (md 8), .ref (md 9), .ref (md 10), .ref (md 11), .ref (md 12), .ref (md 13), .ref (md 14), .int (nI K), .ref (md 15), .ref (md 16), .ref (md 17), .int ib, .int ch, .int rs, .ref (md 18)])), (md 1, .inl (τ 0, 576, .inl xc)), (md 11, .inl (τ 0, 600, .inl lst)), (md 12, .inl (τ 0, 24, .inl fl)), (md 13, .inl (τ 0, 24, .inl fh)), (md 14, .inl (τ 0, 24, .inl (upd fp v (fp v))))] := hD
      refine lv_iinc (v := nI (N - (k + 1)) - 1) (lv' := [(6, .int (nI (N - (k + 1)) - 1)), (7, .int 0), (0, .ref (md 0)), (1, .int (nI fr)), (2, .int ka), (3, .int kb), (4, .int kw), (5, .int (nI v))]) hx hb dM_find_470 hl (k := 7) rfl (by rw [show N - (k + 1) = N - k - 1 by omega]; exact k_m1 _) (by decide) rfl (fun ls hl => ?_)
      refine lv_goto (tgt := 348) hx hb dM_find_473 (by decide) ?_
      have e_ : (mL7 N xc fl fh v) k (fp) = (upd fp v (fp v)) := by unfold mL7; exact kIf_f (fun z => z.1 c_368)
      (try rw [e_] at ih)
      exact ih H locs ls hP hD hS (lv_sub hl [2, 3, 4, 5, 6, 7, 0] rfl)
    · skip
      refine lv_aload_n hx hb dM_find_371 rfl (lv_at hl 0 rfl) ?_
      refine va_get (D := D) (ci := 5) (v := .ref (md 1)) (C := RM) (T := TM) (N := 24) hx hb hts iM hown hK hP 0 rfl rfl 2 (by decide) (hts _ w_342) (fun _ h9 => h9) rfl dM_find_372 ?_
      refine lv_bipush (v := 24) hx hb dM_find_375 (by decide) ?_
      refine lv_iload hx hb dM_find_377 (lv_at hl 6 rfl) ?_
      refine lv_imul hx hb dM_find_379 ?_
      refine lv_topi (fun y_ ey_ => ?_)
      obtain rfl : y_ = nI ((N - k - 1) * 24) := ey_.trans (k_mulL 24 _ rfl)
      refine lv_iload hx hb dM_find_380 (lv_at hl 5 rfl) ?_
      refine lv_iadd hx hb dM_find_382 ?_
      refine lv_topi (fun y_ ey_ => ?_)
      obtain rfl : y_ = nI ((N - k - 1) * 24 + v) := ey_.trans (nI_add _ _)
      refine ka_iald (k := (N - k - 1) * 24 + v) hx hb hK hP 1 0 rfl rfl (by omega) (by omega) rfl dM_find_383 ?_
      refine lv_ldc (v := 1000000) hx hb hown (hts _ w_330) dM_find_384 ?_
      refine lv_icmp_eq (tgt := 424) hx hb dM_find_386 (by decide) (fun c_386 => ?_) (fun c_386 => ?_)
      · skip
        refine lv_iconst (v := 0) hx hb dM_find_424 (by decide) ?_
        refine lv_istore (lv' := [(7, .int 0), (0, .ref (md 0)), (1, .int (nI fr)), (2, .int ka), (3, .int kb), (4, .int kw), (5, .int (nI v)), (6, .int (nI (N - k - 1)))]) hx hb dM_find_425 hl (by decide) rfl (fun ls hl => ?_)
        refine lv_aload_n hx hb dM_find_427 rfl (lv_at hl 1 rfl) ?_
        refine va_get (D := D) (ci := 5) (v := .ref (md 14)) (C := RM) (T := TM) (N := 24) hx hb hts iM hown hK hP 0 rfl rfl 15 (by decide) (hts _ w_355) (fun _ h9 => h9) rfl dM_find_428 ?_
        refine lv_iload hx hb dM_find_431 (lv_at hl 6 rfl) ?_
        refine lv_iload hx hb dM_find_433 (lv_at hl 0 rfl) ?_
        refine lv_if_eq (tgt := 462) hx hb dM_find_435 (by decide) (fun c_435 => ?_) (fun c_435 => absurd c_435 (by decide))
        refine lv_aload_n hx hb dM_find_462 rfl (lv_at hl 1 rfl) ?_
        refine va_get (D := D) (ci := 5) (v := .ref (md 14)) (C := RM) (T := TM) (N := 24) hx hb hts iM hown hK hP 0 rfl rfl 15 (by decide) (hts _ w_355) (fun _ h9 => h9) rfl dM_find_463 ?_
        refine lv_iload hx hb dM_find_466 (lv_at hl 6 rfl) ?_
        refine ka_iald (k := v) hx hb hK hP 5 0 rfl rfl (by omega) (by omega) rfl dM_find_468 ?_
        refine ka_iast (k := v) hx hb hK hP hD hS 5 0 rfl rfl (by omega) (by omega) rfl dM_find_469 (fun H locs hP hD hS => ?_)
        have hP : va_P D vwCl [(md 0, .inr (5, [.int th, .int (nI N), .ref (md 1), .ref (md 2), .ref (md 3), .ref (md 4), .ref (md 5), .ref (md 6), .ref (md 7), .ref (md 8), .ref (md 9), .ref (md 10), .ref (md 11), .ref (md 12), .ref (md 13), .ref (md 14), .int (nI K), .ref (md 15), .ref (md 16), .ref (md 17), .int ib, .int ch, .int rs, .ref (md 18)])), (md 1, .inl (τ 0, 576, .inl xc)), (md 11, .inl (τ 0, 600, .inl lst)), (md 12, .inl (τ 0, 24, .inl fl)), (md 13, .inl (τ 0, 24, .inl fh)), (md 14, .inl (τ 0, 24, .inl (upd fp v (fp v))))] H := hP
        have hD : va_D A [(md 0, .inr (5, [.int th, .int (nI N), .ref (md 1), .ref (md 2), .ref (md 3), .ref (md 4), .ref (md 5), .ref (md 6), .ref (md 7), .ref (md 8), .ref (md 9), .ref (md 10), .ref (md 11), .ref (md 12), .ref (md 13), .ref (md 14), .int (nI K), .ref (md 15), .ref (md 16), .ref (md 17), .int ib, .int ch, .int rs, .ref (md 18)])), (md 1, .inl (τ 0, 576, .inl xc)), (md 11, .inl (τ 0, 600, .inl lst)), (md 12, .inl (τ 0, 24, .inl fl)), (md 13, .inl (τ 0, 24, .inl fh)), (md 14, .inl (τ 0, 24, .inl (upd fp v (fp v))))] := hD
        refine lv_iinc (v := nI (N - (k + 1)) - 1) (lv' := [(6, .int (nI (N - (k + 1)) - 1)), (7, .int 0), (0, .ref (md 0)), (1, .int (nI fr)), (2, .int ka), (3, .int kb), (4, .int kw), (5, .int (nI v))]) hx hb dM_find_470 hl (k := 7) rfl (by rw [show N - (k + 1) = N - k - 1 by omega]; exact k_m1 _) (by decide) rfl (fun ls hl => ?_)
        refine lv_goto (tgt := 348) hx hb dM_find_473 (by decide) ?_
        have e_ : (mL7 N xc fl fh v) k (fp) = (upd fp v (fp v)) := by unfold mL7; exact kIf_f (fun z => z.2.1 c_386)
        (try rw [e_] at ih)
        exact ih H locs ls hP hD hS (lv_sub hl [2, 3, 4, 5, 6, 7, 0] rfl)
      · skip
        refine lv_aload_n hx hb dM_find_389 rfl (lv_at hl 0 rfl) ?_
        refine va_get (D := D) (ci := 5) (v := .ref (md 12)) (C := RM) (T := TM) (N := 24) hx hb hts iM hown hK hP 0 rfl rfl 13 (by decide) (hts _ w_353) (fun _ h9 => h9) rfl dM_find_390 ?_
        refine lv_iload hx hb dM_find_393 (lv_at hl 6 rfl) ?_
        refine ka_iald (k := N - k - 1) hx hb hK hP 3 0 rfl rfl (by omega) (by omega) rfl dM_find_395 ?_
        refine lv_aload_n hx hb dM_find_396 rfl (lv_at hl 0 rfl) ?_
        refine va_get (D := D) (ci := 5) (v := .ref (md 1)) (C := RM) (T := TM) (N := 24) hx hb hts iM hown hK hP 0 rfl rfl 2 (by decide) (hts _ w_342) (fun _ h9 => h9) rfl dM_find_397 ?_
        refine lv_bipush (v := 24) hx hb dM_find_400 (by decide) ?_
        refine lv_iload hx hb dM_find_402 (lv_at hl 6 rfl) ?_
        refine lv_imul hx hb dM_find_404 ?_
        refine lv_topi (fun y_ ey_ => ?_)
        obtain rfl : y_ = nI ((N - k - 1) * 24) := ey_.trans (k_mulL 24 _ rfl)
        refine lv_iload hx hb dM_find_405 (lv_at hl 5 rfl) ?_
        refine lv_iadd hx hb dM_find_407 ?_
        refine lv_topi (fun y_ ey_ => ?_)
        obtain rfl : y_ = nI ((N - k - 1) * 24 + v) := ey_.trans (nI_add _ _)
        refine ka_iald (k := (N - k - 1) * 24 + v) hx hb hK hP 1 0 rfl rfl (by omega) (by omega) rfl dM_find_408 ?_
        refine lv_iadd hx hb dM_find_409 ?_
        refine lv_aload_n hx hb dM_find_410 rfl (lv_at hl 0 rfl) ?_
        refine va_get (D := D) (ci := 5) (v := .ref (md 12)) (C := RM) (T := TM) (N := 24) hx hb hts iM hown hK hP 0 rfl rfl 13 (by decide) (hts _ w_353) (fun _ h9 => h9) rfl dM_find_411 ?_
        refine lv_iload hx hb dM_find_414 (lv_at hl 5 rfl) ?_
        refine ka_iald (k := v) hx hb hK hP 3 0 rfl rfl (by omega) (by omega) rfl dM_find_416 ?_
        refine lv_icmp_ne (tgt := 424) hx hb dM_find_417 (by decide) (fun c_417 => ?_) (fun c_417 => ?_)
        · skip
          refine lv_iconst (v := 0) hx hb dM_find_424 (by decide) ?_
          refine lv_istore (lv' := [(7, .int 0), (0, .ref (md 0)), (1, .int (nI fr)), (2, .int ka), (3, .int kb), (4, .int kw), (5, .int (nI v)), (6, .int (nI (N - k - 1)))]) hx hb dM_find_425 hl (by decide) rfl (fun ls hl => ?_)
          refine lv_aload_n hx hb dM_find_427 rfl (lv_at hl 1 rfl) ?_
          refine va_get (D := D) (ci := 5) (v := .ref (md 14)) (C := RM) (T := TM) (N := 24) hx hb hts iM hown hK hP 0 rfl rfl 15 (by decide) (hts _ w_355) (fun _ h9 => h9) rfl dM_find_428 ?_
          refine lv_iload hx hb dM_find_431 (lv_at hl 6 rfl) ?_
          refine lv_iload hx hb dM_find_433 (lv_at hl 0 rfl) ?_
          refine lv_if_eq (tgt := 462) hx hb dM_find_435 (by decide) (fun c_435 => ?_) (fun c_435 => absurd c_435 (by decide))
          refine lv_aload_n hx hb dM_find_462 rfl (lv_at hl 1 rfl) ?_
          refine va_get (D := D) (ci := 5) (v := .ref (md 14)) (C := RM) (T := TM) (N := 24) hx hb hts iM hown hK hP 0 rfl rfl 15 (by decide) (hts _ w_355) (fun _ h9 => h9) rfl dM_find_463 ?_
          refine lv_iload hx hb dM_find_466 (lv_at hl 6 rfl) ?_
          refine ka_iald (k := v) hx hb hK hP 5 0 rfl rfl (by omega) (by omega) rfl dM_find_468 ?_
          refine ka_iast (k := v) hx hb hK hP hD hS 5 0 rfl rfl (by omega) (by omega) rfl dM_find_469 (fun H locs hP hD hS => ?_)
          have hP : va_P D vwCl [(md 0, .inr (5, [.int th, .int (nI N), .ref (md 1), .ref (md 2), .ref (md 3), .ref (md 4), .ref (md 5), .ref (md 6), .ref (md 7), .ref (md 8), .ref (md 9), .ref (md 10), .ref (md 11), .ref (md 12), .ref (md 13), .ref (md 14), .int (nI K), .ref (md 15), .ref (md 16), .ref (md 17), .int ib, .int ch, .int rs, .ref (md 18)])), (md 1, .inl (τ 0, 576, .inl xc)), (md 11, .inl (τ 0, 600, .inl lst)), (md 12, .inl (τ 0, 24, .inl fl)), (md 13, .inl (τ 0, 24, .inl fh)), (md 14, .inl (τ 0, 24, .inl (upd fp v (fp v))))] H := hP
          have hD : va_D A [(md 0, .inr (5, [.int th, .int (nI N), .ref (md 1), .ref (md 2), .ref (md 3), .ref (md 4), .ref (md 5), .ref (md 6), .ref (md 7), .ref (md 8), .ref (md 9), .ref (md 10), .ref (md 11), .ref (md 12), .ref (md 13), .ref (md 14), .int (nI K), .ref (md 15), .ref (md 16), .ref (md 17), .int ib, .int ch, .int rs, .ref (md 18)])), (md 1, .inl (τ 0, 576, .inl xc)), (md 11, .inl (τ 0, 600, .inl lst)), (md 12, .inl (τ 0, 24, .inl fl)), (md 13, .inl (τ 0, 24, .inl fh)), (md 14, .inl (τ 0, 24, .inl (upd fp v (fp v))))] := hD
          refine lv_iinc (v := nI (N - (k + 1)) - 1) (lv' := [(6, .int (nI (N - (k + 1)) - 1)), (7, .int 0), (0, .ref (md 0)), (1, .int (nI fr)), (2, .int ka), (3, .int kb), (4, .int kw), (5, .int (nI v))]) hx hb dM_find_470 hl (k := 7) rfl (by rw [show N - (k + 1) = N - k - 1 by omega]; exact k_m1 _) (by decide) rfl (fun ls hl => ?_)
          refine lv_goto (tgt := 348) hx hb dM_find_473 (by decide) ?_
          have e_ : (mL7 N xc fl fh v) k (fp) = (upd fp v (fp v)) := by unfold mL7; exact kIf_f (fun z => c_417 z.2.2.1)
          (try rw [e_] at ih)
          exact ih H locs ls hP hD hS (lv_sub hl [2, 3, 4, 5, 6, 7, 0] rfl)
        · skip
          refine lv_iconst (v := 1) hx hb dM_find_420 (by decide) ?_
          refine lv_goto (tgt := 425) hx hb dM_find_421 (by decide) ?_
          refine lv_istore (lv' := [(7, .int 1), (0, .ref (md 0)), (1, .int (nI fr)), (2, .int ka), (3, .int kb), (4, .int kw), (5, .int (nI v)), (6, .int (nI (N - k - 1)))]) hx hb dM_find_425 hl (by decide) rfl (fun ls hl => ?_)
          refine lv_aload_n hx hb dM_find_427 rfl (lv_at hl 1 rfl) ?_
          refine va_get (D := D) (ci := 5) (v := .ref (md 14)) (C := RM) (T := TM) (N := 24) hx hb hts iM hown hK hP 0 rfl rfl 15 (by decide) (hts _ w_355) (fun _ h9 => h9) rfl dM_find_428 ?_
          refine lv_iload hx hb dM_find_431 (lv_at hl 6 rfl) ?_
          refine lv_iload hx hb dM_find_433 (lv_at hl 0 rfl) ?_
          refine lv_if_eq (tgt := 462) hx hb dM_find_435 (by decide) (fun c_435 => absurd c_435 (by decide)) (fun c_435 => ?_)
          refine lv_aload_n hx hb dM_find_438 rfl (lv_at hl 1 rfl) ?_
          refine va_get (D := D) (ci := 5) (v := .ref (md 13)) (C := RM) (T := TM) (N := 24) hx hb hts iM hown hK hP 0 rfl rfl 14 (by decide) (hts _ w_354) (fun _ h9 => h9) rfl dM_find_439 ?_
          refine lv_iload hx hb dM_find_442 (lv_at hl 7 rfl) ?_
          refine ka_iald (k := N - k - 1) hx hb hK hP 4 0 rfl rfl (by omega) (by omega) rfl dM_find_444 ?_
          refine lv_iconst (v := 1) hx hb dM_find_445 (by decide) ?_
          refine lv_iadd hx hb dM_find_446 ?_
          refine lv_aload_n hx hb dM_find_447 rfl (lv_at hl 1 rfl) ?_
          refine va_get (D := D) (ci := 5) (v := .ref (md 13)) (C := RM) (T := TM) (N := 24) hx hb hts iM hown hK hP 0 rfl rfl 14 (by decide) (hts _ w_354) (fun _ h9 => h9) rfl dM_find_448 ?_
          refine lv_iload hx hb dM_find_451 (lv_at hl 6 rfl) ?_
          refine ka_iald (k := v) hx hb hK hP 4 0 rfl rfl (by omega) (by omega) rfl dM_find_453 ?_
          refine lv_icmp_ne (tgt := 462) hx hb dM_find_454 (by decide) (fun c_454 => ?_) (fun c_454 => ?_)
          · skip
            refine lv_aload_n hx hb dM_find_462 rfl (lv_at hl 1 rfl) ?_
            refine va_get (D := D) (ci := 5) (v := .ref (md 14)) (C := RM) (T := TM) (N := 24) hx hb hts iM hown hK hP 0 rfl rfl 15 (by decide) (hts _ w_355) (fun _ h9 => h9) rfl dM_find_463 ?_
            refine lv_iload hx hb dM_find_466 (lv_at hl 6 rfl) ?_
            refine ka_iald (k := v) hx hb hK hP 5 0 rfl rfl (by omega) (by omega) rfl dM_find_468 ?_
            refine ka_iast (k := v) hx hb hK hP hD hS 5 0 rfl rfl (by omega) (by omega) rfl dM_find_469 (fun H locs hP hD hS => ?_)
            have hP : va_P D vwCl [(md 0, .inr (5, [.int th, .int (nI N), .ref (md 1), .ref (md 2), .ref (md 3), .ref (md 4), .ref (md 5), .ref (md 6), .ref (md 7), .ref (md 8), .ref (md 9), .ref (md 10), .ref (md 11), .ref (md 12), .ref (md 13), .ref (md 14), .int (nI K), .ref (md 15), .ref (md 16), .ref (md 17), .int ib, .int ch, .int rs, .ref (md 18)])), (md 1, .inl (τ 0, 576, .inl xc)), (md 11, .inl (τ 0, 600, .inl lst)), (md 12, .inl (τ 0, 24, .inl fl)), (md 13, .inl (τ 0, 24, .inl fh)), (md 14, .inl (τ 0, 24, .inl (upd fp v (fp v))))] H := hP
            have hD : va_D A [(md 0, .inr (5, [.int th, .int (nI N), .ref (md 1), .ref (md 2), .ref (md 3), .ref (md 4), .ref (md 5), .ref (md 6), .ref (md 7), .ref (md 8), .ref (md 9), .ref (md 10), .ref (md 11), .ref (md 12), .ref (md 13), .ref (md 14), .int (nI K), .ref (md 15), .ref (md 16), .ref (md 17), .int ib, .int ch, .int rs, .ref (md 18)])), (md 1, .inl (τ 0, 576, .inl xc)), (md 11, .inl (τ 0, 600, .inl lst)), (md 12, .inl (τ 0, 24, .inl fl)), (md 13, .inl (τ 0, 24, .inl fh)), (md 14, .inl (τ 0, 24, .inl (upd fp v (fp v))))] := hD
            refine lv_iinc (v := nI (N - (k + 1)) - 1) (lv' := [(6, .int (nI (N - (k + 1)) - 1)), (7, .int 1), (0, .ref (md 0)), (1, .int (nI fr)), (2, .int ka), (3, .int kb), (4, .int kw), (5, .int (nI v))]) hx hb dM_find_470 hl (k := 7) rfl (by rw [show N - (k + 1) = N - k - 1 by omega]; exact k_m1 _) (by decide) rfl (fun ls hl => ?_)
            refine lv_goto (tgt := 348) hx hb dM_find_473 (by decide) ?_
            have e_ : (mL7 N xc fl fh v) k (fp) = (upd fp v (fp v)) := by unfold mL7; exact kIf_f (fun z => c_454 z.2.2.2)
            (try rw [e_] at ih)
            exact ih H locs ls hP hD hS (lv_sub hl [2, 3, 4, 5, 6, 7, 0] rfl)
          · skip
            refine lv_iload hx hb dM_find_457 (lv_at hl 7 rfl) ?_
            refine lv_goto (tgt := 469) hx hb dM_find_459 (by decide) ?_
            refine ka_iast (k := v) hx hb hK hP hD hS 5 0 rfl rfl (by omega) (by omega) rfl dM_find_469 (fun H locs hP hD hS => ?_)
            have hP : va_P D vwCl [(md 0, .inr (5, [.int th, .int (nI N), .ref (md 1), .ref (md 2), .ref (md 3), .ref (md 4), .ref (md 5), .ref (md 6), .ref (md 7), .ref (md 8), .ref (md 9), .ref (md 10), .ref (md 11), .ref (md 12), .ref (md 13), .ref (md 14), .int (nI K), .ref (md 15), .ref (md 16), .ref (md 17), .int ib, .int ch, .int rs, .ref (md 18)])), (md 1, .inl (τ 0, 576, .inl xc)), (md 11, .inl (τ 0, 600, .inl lst)), (md 12, .inl (τ 0, 24, .inl fl)), (md 13, .inl (τ 0, 24, .inl fh)), (md 14, .inl (τ 0, 24, .inl (upd fp v (nI (N - k - 1)))))] H := hP
            have hD : va_D A [(md 0, .inr (5, [.int th, .int (nI N), .ref (md 1), .ref (md 2), .ref (md 3), .ref (md 4), .ref (md 5), .ref (md 6), .ref (md 7), .ref (md 8), .ref (md 9), .ref (md 10), .ref (md 11), .ref (md 12), .ref (md 13), .ref (md 14), .int (nI K), .ref (md 15), .ref (md 16), .ref (md 17), .int ib, .int ch, .int rs, .ref (md 18)])), (md 1, .inl (τ 0, 576, .inl xc)), (md 11, .inl (τ 0, 600, .inl lst)), (md 12, .inl (τ 0, 24, .inl fl)), (md 13, .inl (τ 0, 24, .inl fh)), (md 14, .inl (τ 0, 24, .inl (upd fp v (nI (N - k - 1)))))] := hD
            refine lv_iinc (v := nI (N - (k + 1)) - 1) (lv' := [(6, .int (nI (N - (k + 1)) - 1)), (7, .int 1), (0, .ref (md 0)), (1, .int (nI fr)), (2, .int ka), (3, .int kb), (4, .int kw), (5, .int (nI v))]) hx hb dM_find_470 hl (k := 7) rfl (by rw [show N - (k + 1) = N - k - 1 by omega]; exact k_m1 _) (by decide) rfl (fun ls hl => ?_)
            refine lv_goto (tgt := 348) hx hb dM_find_473 (by decide) ?_
            have e_ : (mL7 N xc fl fh v) k (fp) = (upd fp v (nI (N - k - 1))) := by unfold mL7; exact kIf_t ⟨c_368, c_386, c_417, c_454⟩
            (try rw [e_] at ih)
            exact ih H locs ls hP hD hS (lv_sub hl [2, 3, 4, 5, 6, 7, 0] rfl)
set_option maxHeartbeats 4000000 in
set_option maxRecDepth 100000 in
theorem lm_6 {p : Program} {l : Launch} {e : Env} {s : State} {m : MethodId} {args : Array Value} {below : List Frame} {meth : Method} {c : Code} {Q : State → Prop} {D : va_G} {τ : Nat → ClassId} {A : Nat → Prop} (hx : p.tables.exec = Jvm.exec) (hb : c.code = cM_find) (hml : c.maxLocals = 10) (hown : s.vm.findClass RM = some m.cls) (hts : ∀ w ∈ kTbl, w.before args s = true) (hK : va_K D vwCl (kTys τ) s) (hA : ∀ q : Nat, s.heap.size ≤ q → A q) (md : Nat → Nat) (th : Int32) (N : Nat) (K : Nat) (ib : Int32) (ch : Int32) (rs : Int32) (xc : Nat → Int32) (lst : Nat → Int32) (fl : Nat → Int32) (fh : Nat → Int32) (fr : Nat) (ka : Int32) (kb : Int32) (kw : Int32) (g : Nat → Int32) (hN : N ≤ 24) (hfr : fr < 24)
    (kx : ∀ (H : Heap) (locs : List Loc) (ls : Array Slot), va_P D vwCl [(md 0, .inr (5, [.int th, .int (nI N), .ref (md 1), .ref (md 2), .ref (md 3), .ref (md 4), .ref (md 5), .ref (md 6), .ref (md 7), .ref (md 8), .ref (md 9), .ref (md 10), .ref (md 11), .ref (md 12), .ref (md 13), .ref (md 14), .int (nI K), .ref (md 15), .ref (md 16), .ref (md 17), .int ib, .int ch, .int rs, .ref (md 18)])), (md 1, .inl (τ 0, 576, .inl xc)), (md 11, .inl (τ 0, 600, .inl lst)), (md 12, .inl (τ 0, 24, .inl fl)), (md 13, .inl (τ 0, 24, .inl fh)), (md 14, .inl (τ 0, 24, .inl (kItr (mL6 N xc fl fh fr) N (g))))] H → va_D A [(md 0, .inr (5, [.int th, .int (nI N), .ref (md 1), .ref (md 2), .ref (md 3), .ref (md 4), .ref (md 5), .ref (md 6), .ref (md 7), .ref (md 8), .ref (md 9), .ref (md 10), .ref (md 11), .ref (md 12), .ref (md 13), .ref (md 14), .int (nI K), .ref (md 15), .ref (md 16), .ref (md 17), .int ib, .int ch, .int rs, .ref (md 18)])), (md 1, .inl (τ 0, 576, .inl xc)), (md 11, .inl (τ 0, 600, .inl lst)), (md 12, .inl (τ 0, 24, .inl fl)), (md 13, .inl (τ 0, 24, .inl fh)), (md 14, .inl (τ 0, 24, .inl (kItr (mL6 N xc fl fh fr) N (g))))] → va_S A s.heap H locs → lv_has ls 10 [(0, .ref (md 0)), (1, .int (nI fr)), (2, .int ka), (3, .int kb), (4, .int kw)] → W p l e (headSpec (kWs yM_find cM_find 10 none) { frames := 0, cells := 0, slots := 0, locals := 0 }).room s m args below meth c H locs 0 0 Q (F0 m 482 ls [])) :
    ∀ (n k : Nat), k + n = N → ∀ (H : Heap) (locs : List Loc) (ls : Array Slot), va_P D vwCl [(md 0, .inr (5, [.int th, .int (nI N), .ref (md 1), .ref (md 2), .ref (md 3), .ref (md 4), .ref (md 5), .ref (md 6), .ref (md 7), .ref (md 8), .ref (md 9), .ref (md 10), .ref (md 11), .ref (md 12), .ref (md 13), .ref (md 14), .int (nI K), .ref (md 15), .ref (md 16), .ref (md 17), .int ib, .int ch, .int rs, .ref (md 18)])), (md 1, .inl (τ 0, 576, .inl xc)), (md 11, .inl (τ 0, 600, .inl lst)), (md 12, .inl (τ 0, 24, .inl fl)), (md 13, .inl (τ 0, 24, .inl fh)), (md 14, .inl (τ 0, 24, .inl (kItr (mL6 N xc fl fh fr) k (g))))] H → va_D A [(md 0, .inr (5, [.int th, .int (nI N), .ref (md 1), .ref (md 2), .ref (md 3), .ref (md 4), .ref (md 5), .ref (md 6), .ref (md 7), .ref (md 8), .ref (md 9), .ref (md 10), .ref (md 11), .ref (md 12), .ref (md 13), .ref (md 14), .int (nI K), .ref (md 15), .ref (md 16), .ref (md 17), .int ib, .int ch, .int rs, .ref (md 18)])), (md 1, .inl (τ 0, 576, .inl xc)), (md 11, .inl (τ 0, 600, .inl lst)), (md 12, .inl (τ 0, 24, .inl fl)), (md 13, .inl (τ 0, 24, .inl fh)), (md 14, .inl (τ 0, 24, .inl (kItr (mL6 N xc fl fh fr) k (g))))] → va_S A s.heap H locs → lv_has ls 10 [(0, .ref (md 0)), (1, .int (nI fr)), (2, .int ka), (3, .int kb), (4, .int kw), (5, .int (nI k))] → W p l e (headSpec (kWs yM_find cM_find 10 none) { frames := 0, cells := 0, slots := 0, locals := 0 }).room s m args below meth c H locs 0 0 Q (F0 m 331 ls []) := by
  intro n
  induction n with
  | zero =>
    intro k hk H locs ls hP hD hS hl
    have hkN : N = k := by omega
    subst hkN
    revert hP hD hl
    generalize hst : (kItr (mL6 N xc fl fh fr) N (g)) = fp
    intro hP hD hl
    have hP : va_P D vwCl [(md 0, .inr (5, [.int th, .int (nI N), .ref (md 1), .ref (md 2), .ref (md 3), .ref (md 4), .ref (md 5), .ref (md 6), .ref (md 7), .ref (md 8), .ref (md 9), .ref (md 10), .ref (md 11), .ref (md 12), .ref (md 13), .ref (md 14), .int (nI K), .ref (md 15), .ref (md 16), .ref (md 17), .int ib, .int ch, .int rs, .ref (md 18)])), (md 1, .inl (τ 0, 576, .inl xc)), (md 11, .inl (τ 0, 600, .inl lst)), (md 12, .inl (τ 0, 24, .inl fl)), (md 13, .inl (τ 0, 24, .inl fh)), (md 14, .inl (τ 0, 24, .inl fp))] H := hP
    have hD : va_D A [(md 0, .inr (5, [.int th, .int (nI N), .ref (md 1), .ref (md 2), .ref (md 3), .ref (md 4), .ref (md 5), .ref (md 6), .ref (md 7), .ref (md 8), .ref (md 9), .ref (md 10), .ref (md 11), .ref (md 12), .ref (md 13), .ref (md 14), .int (nI K), .ref (md 15), .ref (md 16), .ref (md 17), .int ib, .int ch, .int rs, .ref (md 18)])), (md 1, .inl (τ 0, 576, .inl xc)), (md 11, .inl (τ 0, 600, .inl lst)), (md 12, .inl (τ 0, 24, .inl fl)), (md 13, .inl (τ 0, 24, .inl fh)), (md 14, .inl (τ 0, 24, .inl fp))] := hD
    have hl : lv_has ls 10 [(0, .ref (md 0)), (1, .int (nI fr)), (2, .int ka), (3, .int kb), (4, .int kw), (5, .int (nI N))] := hl
    refine lv_iload hx hb dM_find_331 (lv_at hl 5 rfl) ?_
    refine lv_aload_n hx hb dM_find_333 rfl (lv_at hl 0 rfl) ?_
    refine va_get (D := D) (ci := 5) (v := .int (nI N)) (C := RM) (T := TM) (N := 24) hx hb hts iM hown hK hP 0 rfl rfl 1 (by decide) (hts _ w_341) (fun _ h9 => h9) rfl dM_find_334 ?_
    refine lv_icmp_ge (tgt := 482) hx hb dM_find_337 (by decide) (fun c_337 => ?_) (fun c_337 => absurd (nI_le (Nat.le_refl _) (by omega)) c_337)
    exact kx H locs ls (by (try rw [hst]); exact hP) (by (try rw [hst]); exact hD) hS (by (try rw [hst]); exact lv_sub hl [0, 1, 2, 3, 4] rfl)
  | succ n ih =>
    intro k hk H locs ls hP hD hS hl
    have hkN : k < N := by omega
    have ih := ih (k + 1) (by omega)
    rw [kItr_s] at ih
    revert hP hD hl ih
    generalize hst : (kItr (mL6 N xc fl fh fr) k (g)) = fp
    intro hP hD hl ih
    have hP : va_P D vwCl [(md 0, .inr (5, [.int th, .int (nI N), .ref (md 1), .ref (md 2), .ref (md 3), .ref (md 4), .ref (md 5), .ref (md 6), .ref (md 7), .ref (md 8), .ref (md 9), .ref (md 10), .ref (md 11), .ref (md 12), .ref (md 13), .ref (md 14), .int (nI K), .ref (md 15), .ref (md 16), .ref (md 17), .int ib, .int ch, .int rs, .ref (md 18)])), (md 1, .inl (τ 0, 576, .inl xc)), (md 11, .inl (τ 0, 600, .inl lst)), (md 12, .inl (τ 0, 24, .inl fl)), (md 13, .inl (τ 0, 24, .inl fh)), (md 14, .inl (τ 0, 24, .inl fp))] H := hP
    have hD : va_D A [(md 0, .inr (5, [.int th, .int (nI N), .ref (md 1), .ref (md 2), .ref (md 3), .ref (md 4), .ref (md 5), .ref (md 6), .ref (md 7), .ref (md 8), .ref (md 9), .ref (md 10), .ref (md 11), .ref (md 12), .ref (md 13), .ref (md 14), .int (nI K), .ref (md 15), .ref (md 16), .ref (md 17), .int ib, .int ch, .int rs, .ref (md 18)])), (md 1, .inl (τ 0, 576, .inl xc)), (md 11, .inl (τ 0, 600, .inl lst)), (md 12, .inl (τ 0, 24, .inl fl)), (md 13, .inl (τ 0, 24, .inl fh)), (md 14, .inl (τ 0, 24, .inl fp))] := hD
    have hl : lv_has ls 10 [(0, .ref (md 0)), (1, .int (nI fr)), (2, .int ka), (3, .int kb), (4, .int kw), (5, .int (nI k))] := hl
    refine lv_iload hx hb dM_find_331 (lv_at hl 5 rfl) ?_
    refine lv_aload_n hx hb dM_find_333 rfl (lv_at hl 0 rfl) ?_
    refine va_get (D := D) (ci := 5) (v := .int (nI N)) (C := RM) (T := TM) (N := 24) hx hb hts iM hown hK hP 0 rfl rfl 1 (by decide) (hts _ w_341) (fun _ h9 => h9) rfl dM_find_334 ?_
    refine lv_icmp_ge (tgt := 482) hx hb dM_find_337 (by decide) (fun c_337 => absurd c_337 (nI_ge hkN (by omega))) (fun c_337 => ?_)
    rcases Classical.em (k = fr) with hvf | hvf
    · skip
      refine lv_aload_n hx hb dM_find_340 rfl (lv_at hl 0 rfl) ?_
      refine va_get (D := D) (ci := 5) (v := .int (nI N)) (C := RM) (T := TM) (N := 24) hx hb hts iM hown hK hP 0 rfl rfl 1 (by decide) (hts _ w_341) (fun _ h9 => h9) rfl dM_find_341 ?_
      refine lv_iconst (v := 1) hx hb dM_find_344 (by decide) ?_
      refine lv_isub hx hb dM_find_345 ?_
      refine lv_istore (lv' := [(6, .int ((nI N) - 1)), (0, .ref (md 0)), (1, .int (nI fr)), (2, .int ka), (3, .int kb), (4, .int kw), (5, .int (nI k))]) hx hb dM_find_346 hl (by decide) rfl (fun ls hl => ?_)
      refine lv_iload hx hb dM_find_348 (lv_at hl 0 rfl) ?_
      refine lv_if_lt (tgt := 476) hx hb dM_find_350 (by decide) (fun c_350 => absurd c_350 (by rw [show nI N - 1 = nI (N - 1) from pk_sub (b := 1) (by omega)]; exact nI_pos (by omega))) (fun c_350 => ?_)
      refine lv_iload hx hb dM_find_353 (lv_at hl 6 rfl) ?_
      refine lv_iload_n hx hb dM_find_355 rfl (lv_at hl 2 rfl) ?_
      refine lv_icmp_eq (tgt := 476) hx hb dM_find_356 (by decide) (fun c_356 => ?_) (fun c_356 => absurd (by rw [hvf]) c_356)
      refine lv_iinc (v := nI (k + 1)) (lv' := [(5, .int (nI (k + 1))), (6, .int ((nI N) - 1)), (0, .ref (md 0)), (1, .int (nI fr)), (2, .int ka), (3, .int kb), (4, .int kw)]) hx hb dM_find_476 hl (k := 6) rfl (nI_1 _) (by decide) rfl (fun ls hl => ?_)
      refine lv_goto (tgt := 331) hx hb dM_find_479 (by decide) ?_
      have e_ : (mL6 N xc fl fh fr) k (fp) = (fp) := by unfold mL6; exact kIf_t hvf
      (try rw [e_] at ih)
      exact ih H locs ls hP hD hS (lv_sub hl [2, 3, 4, 5, 6, 0] rfl)
    · skip
      refine lv_aload_n hx hb dM_find_340 rfl (lv_at hl 0 rfl) ?_
      refine va_get (D := D) (ci := 5) (v := .int (nI N)) (C := RM) (T := TM) (N := 24) hx hb hts iM hown hK hP 0 rfl rfl 1 (by decide) (hts _ w_341) (fun _ h9 => h9) rfl dM_find_341 ?_
      refine lv_iconst (v := 1) hx hb dM_find_344 (by decide) ?_
      refine lv_isub hx hb dM_find_345 ?_
      refine lv_istore (lv' := [(6, .int ((nI N) - 1)), (0, .ref (md 0)), (1, .int (nI fr)), (2, .int ka), (3, .int kb), (4, .int kw), (5, .int (nI k))]) hx hb dM_find_346 hl (by decide) rfl (fun ls hl => ?_)
      refine lm_7 hx hb hml hown hts hK hA md th N K ib ch rs xc lst fl fh fr ka kb kw k fp (by first | assumption | omega) (by first | assumption | omega) (by first | assumption | omega) (by first | assumption | omega) (fun H locs ls hP hD hS hl => ?_) N 0 (by omega) _ _ ls hP hD hS (lv_sub hl [1, 2, 3, 4, 5, 6, 0] rfl)
      refine lv_iinc (v := nI (k + 1)) (lv' := [(5, .int (nI (k + 1))), (0, .ref (md 0)), (1, .int (nI fr)), (2, .int ka), (3, .int kb), (4, .int kw)]) hx hb dM_find_476 hl (k := 5) rfl (nI_1 _) (by decide) rfl (fun ls hl => ?_)
      refine lv_goto (tgt := 331) hx hb dM_find_479 (by decide) ?_
      have e_ : (mL6 N xc fl fh fr) k (fp) = ((kItr (mL7 N xc fl fh k) (N) (fp))) := by unfold mL6; exact kIf_f hvf
      (try rw [e_] at ih)
      exact ih H locs ls hP hD hS (lv_sub hl [1, 2, 3, 4, 5, 0] rfl)
set_option maxHeartbeats 4000000 in
set_option maxRecDepth 100000 in
theorem cm_find0 (l : Launch) (D : va_G) (τ : Nat → ClassId) (md : Nat → Nat) (th : Int32) (N : Nat) (K : Nat) (ib : Int32) (ch : Int32) (rs : Int32) (xc : Nat → Int32) (lst : Nat → Int32) (fl : Nat → Int32) (fh : Nat → Int32) (fp : Nat → Int32) (fr : Nat) (hN : N ≤ 24) (hfr : fr < 24) : kMv l D τ yM_find (kWs yM_find cM_find 10 none) { frames := 0, cells := 0, slots := 0, locals := 0 } [.ref (md 0), .int (nI fr), .int (-1), .int (-1)] [(md 0, .inr (5, [.int th, .int (nI N), .ref (md 1), .ref (md 2), .ref (md 3), .ref (md 4), .ref (md 5), .ref (md 6), .ref (md 7), .ref (md 8), .ref (md 9), .ref (md 10), .ref (md 11), .ref (md 12), .ref (md 13), .ref (md 14), .int (nI K), .ref (md 15), .ref (md 16), .ref (md 17), .int ib, .int ch, .int rs, .ref (md 18)])), (md 1, .inl (τ 0, 576, .inl xc)), (md 11, .inl (τ 0, 600, .inl lst)), (md 12, .inl (τ 0, 24, .inl fl)), (md 13, .inl (τ 0, 24, .inl fh)), (md 14, .inl (τ 0, 24, .inl fp))] [(md 0, .inr (5, [.int th, .int (nI N), .ref (md 1), .ref (md 2), .ref (md 3), .ref (md 4), .ref (md 5), .ref (md 6), .ref (md 7), .ref (md 8), .ref (md 9), .ref (md 10), .ref (md 11), .ref (md 12), .ref (md 13), .ref (md 14), .int (nI K), .ref (md 15), .ref (md 16), .ref (md 17), .int ib, .int ch, .int rs, .ref (md 18)])), (md 1, .inl (τ 0, 576, .inl xc)), (md 11, .inl (τ 0, 600, .inl ((mFind N xc fr (lst, fl, fh, fp)).1))), (md 12, .inl (τ 0, 24, .inl ((mFind N xc fr (lst, fl, fh, fp)).2.1))), (md 13, .inl (τ 0, 24, .inl ((mFind N xc fr (lst, fl, fh, fp)).2.2.1))), (md 14, .inl (τ 0, 24, .inl ((mFind N xc fr (lst, fl, fh, fp)).2.2.2)))] := by
  intro sz
  refine Met.ofW (cc := cM_find) (maxL := 10) (ret := none) (by decide) rfl ?_
  intro p e s m args below meth c s₁ B hml hv
  obtain ⟨rfl, hsz, hP, hK, hD0⟩ := hv
  have hx := B.exec
  have hb := B.bytes
  have hr := B.returns
  have hts := fun w (hw : w ∈ kTbl) => atoms_spec (ws := (kWs yM_find cM_find 10 none)) B.pre w (List.mem_cons_of_mem _ hw)
  have hown : s.vm.findClass RM = some m.cls := findClass_of_methodNamed B.named
  have hlocks := B.notSynchronized
  subst hsz
  have hD := hD0.self (sz := s.heap.size)
  generalize hAe : va_A [(md 0, .inr (5, [.int th, .int (nI N), .ref (md 1), .ref (md 2), .ref (md 3), .ref (md 4), .ref (md 5), .ref (md 6), .ref (md 7), .ref (md 8), .ref (md 9), .ref (md 10), .ref (md 11), .ref (md 12), .ref (md 13), .ref (md 14), .int (nI K), .ref (md 15), .ref (md 16), .ref (md 17), .int ib, .int ch, .int rs, .ref (md 18)])), (md 1, .inl (τ 0, 576, .inl xc)), (md 11, .inl (τ 0, 600, .inl lst)), (md 12, .inl (τ 0, 24, .inl fl)), (md 13, .inl (τ 0, 24, .inl fh)), (md 14, .inl (τ 0, 24, .inl fp))] s.heap.size = A at hD ⊢
  have hA : ∀ q : Nat, s.heap.size ≤ q → A q := fun q h => by rw [← hAe]; exact Or.inr h
  have hS : va_S A s.heap s.heap [] := va_S.rf
  have hP : va_P D vwCl [(md 0, .inr (5, [.int th, .int (nI N), .ref (md 1), .ref (md 2), .ref (md 3), .ref (md 4), .ref (md 5), .ref (md 6), .ref (md 7), .ref (md 8), .ref (md 9), .ref (md 10), .ref (md 11), .ref (md 12), .ref (md 13), .ref (md 14), .int (nI K), .ref (md 15), .ref (md 16), .ref (md 17), .int ib, .int ch, .int rs, .ref (md 18)])), (md 1, .inl (τ 0, 576, .inl xc)), (md 11, .inl (τ 0, 600, .inl lst)), (md 12, .inl (τ 0, 24, .inl fl)), (md 13, .inl (τ 0, 24, .inl fh)), (md 14, .inl (τ 0, 24, .inl fp))] s.heap := hP
  have hl := lv_entry ([.ref (md 0), .int (nI fr), .int (-1), .int (-1)]) (n := 10) (Nat.le_of_ble_eq_true rfl)
  rw [lg_entry_eq]
  generalize (lg_sl ([.ref (md 0), .int (nI fr), .int (-1), .int (-1)]) ++ List.replicate (10 - (lg_sl ([.ref (md 0), .int (nI fr), .int (-1), .int (-1)])).length) Slot.unset).toArray = ls at hl ⊢
  have hl : lv_has ls 10 [(0, .ref (md 0)), (1, .int (nI fr)), (2, .int (-1)), (3, .int (-1))] := hl
  skip
  refine lv_iload_n hx hb dM_find_0 rfl (lv_at hl 2 rfl) ?_
  refine lv_if_ge (tgt := 9) hx hb dM_find_1 (by decide) (fun c_1 => absurd c_1 (by decide)) (fun c_1 => ?_)
  refine lv_ldc (v := 1000000) hx hb hown (hts _ w_330) dM_find_4 ?_
  refine lv_goto (tgt := 20) hx hb dM_find_6 (by decide) ?_
  refine lv_istore (lv' := [(4, .int 1000000), (0, .ref (md 0)), (1, .int (nI fr)), (2, .int (-1)), (3, .int (-1))]) hx hb dM_find_20 hl (by decide) rfl (fun ls hl => ?_)
  refine lv_iload_n hx hb dM_find_22 rfl (lv_at hl 3 rfl) ?_
  refine lv_if_lt (tgt := 39) hx hb dM_find_23 (by decide) (fun c_23 => ?_) (fun c_23 => absurd c_23 (by decide))
  refine lv_iconst (v := 0) hx hb dM_find_39 (by decide) ?_
  refine lv_istore (lv' := [(5, .int 0), (4, .int 1000000), (0, .ref (md 0)), (1, .int (nI fr)), (2, .int (-1)), (3, .int (-1))]) hx hb dM_find_40 hl (by decide) rfl (fun ls hl => ?_)
  refine lm_1 hx hb hml hown hts hK hA md th N K ib ch rs xc fl fh fp fr (-1) (-1) 1000000 lst (by first | assumption | omega) (by first | assumption | omega) (fun H locs ls hP hD hS hl => ?_) N 0 (by omega) _ _ ls hP hD hS (lv_sub hl [2, 3, 4, 5, 1, 0] rfl)
  refine lv_iconst (v := 0) hx hb dM_find_213 (by decide) ?_
  refine lv_istore (lv' := [(5, .int 0), (0, .ref (md 0)), (1, .int (nI fr)), (2, .int (-1)), (3, .int (-1)), (4, .int 1000000)]) hx hb dM_find_214 hl (by decide) rfl (fun ls hl => ?_)
  refine lm_4 hx hb hml hown hts hK hA md th N K ib ch rs xc (kItr (mL1 N xc fr) (N) (lst)) fr (-1) (-1) 1000000 fl fh fp (by first | assumption | omega) (fun H locs ls hP hD hS hl => ?_) N 0 (by omega) _ _ ls hP hD hS (lv_sub hl [1, 2, 3, 4, 5, 0] rfl)
  refine lv_iconst (v := 0) hx hb dM_find_328 (by decide) ?_
  refine lv_istore (lv' := [(5, .int 0), (0, .ref (md 0)), (1, .int (nI fr)), (2, .int (-1)), (3, .int (-1)), (4, .int 1000000)]) hx hb dM_find_329 hl (by decide) rfl (fun ls hl => ?_)
  refine lm_6 hx hb hml hown hts hK hA md th N K ib ch rs xc (kItr (mL1 N xc fr) (N) (lst)) ((kItr (mL4 N (kItr (mL1 N xc fr) (N) (lst))) (N) (fl, fh, fp)).1) ((kItr (mL4 N (kItr (mL1 N xc fr) (N) (lst))) (N) (fl, fh, fp)).2.1) fr (-1) (-1) 1000000 ((kItr (mL4 N (kItr (mL1 N xc fr) (N) (lst))) (N) (fl, fh, fp)).2.2) (by first | assumption | omega) (by first | assumption | omega) (fun H locs ls hP hD hS hl => ?_) N 0 (by omega) _ _ ls hP hD hS (lv_sub hl [1, 2, 3, 4, 5, 0] rfl)
  refine lv_iload_n hx hb dM_find_482 rfl (lv_at hl 2 rfl) ?_
  refine lv_if_lt (tgt := 499) hx hb dM_find_483 (by decide) (fun c_483 => ?_) (fun c_483 => absurd c_483 (by decide))
  exact k_vret hx hb hr hlocks hK hS hP hD dM_find_499
set_option maxHeartbeats 4000000 in
set_option maxRecDepth 100000 in
theorem cm_find1 (l : Launch) (D : va_G) (τ : Nat → ClassId) (md : Nat → Nat) (th : Int32) (N : Nat) (K : Nat) (ib : Int32) (ch : Int32) (rs : Int32) (xc : Nat → Int32) (lst : Nat → Int32) (fl : Nat → Int32) (fh : Nat → Int32) (fp : Nat → Int32) (fr : Nat) (a : Nat) (hN : N ≤ 24) (hfr : fr < 24) (ha : a < 24) : kMv l D τ yM_find (kWs yM_find cM_find 10 none) { frames := 0, cells := 0, slots := 0, locals := 0 } [.ref (md 0), .int (nI fr), .int (nI a), .int (nI fr)] [(md 0, .inr (5, [.int th, .int (nI N), .ref (md 1), .ref (md 2), .ref (md 3), .ref (md 4), .ref (md 5), .ref (md 6), .ref (md 7), .ref (md 8), .ref (md 9), .ref (md 10), .ref (md 11), .ref (md 12), .ref (md 13), .ref (md 14), .int (nI K), .ref (md 15), .ref (md 16), .ref (md 17), .int ib, .int ch, .int rs, .ref (md 18)])), (md 1, .inl (τ 0, 576, .inl xc)), (md 11, .inl (τ 0, 600, .inl lst)), (md 12, .inl (τ 0, 24, .inl fl)), (md 13, .inl (τ 0, 24, .inl fh)), (md 14, .inl (τ 0, 24, .inl fp))] [(md 0, .inr (5, [.int th, .int (nI N), .ref (md 1), .ref (md 2), .ref (md 3), .ref (md 4), .ref (md 5), .ref (md 6), .ref (md 7), .ref (md 8), .ref (md 9), .ref (md 10), .ref (md 11), .ref (md 12), .ref (md 13), .ref (md 14), .int (nI K), .ref (md 15), .ref (md 16), .ref (md 17), .int ib, .int ch, .int rs, .ref (md 18)])), (md 1, .inl (τ 0, 576, .inl xc)), (md 11, .inl (τ 0, 600, .inl ((mFind N (upd xc (a * 24 + fr) 1000000) fr (lst, fl, fh, fp)).1))), (md 12, .inl (τ 0, 24, .inl ((mFind N (upd xc (a * 24 + fr) 1000000) fr (lst, fl, fh, fp)).2.1))), (md 13, .inl (τ 0, 24, .inl ((mFind N (upd xc (a * 24 + fr) 1000000) fr (lst, fl, fh, fp)).2.2.1))), (md 14, .inl (τ 0, 24, .inl ((mFind N (upd xc (a * 24 + fr) 1000000) fr (lst, fl, fh, fp)).2.2.2)))] := by
  intro sz
  refine Met.ofW (cc := cM_find) (maxL := 10) (ret := none) (by decide) rfl ?_
  intro p e s m args below meth c s₁ B hml hv
  obtain ⟨rfl, hsz, hP, hK, hD0⟩ := hv
  have hx := B.exec
  have hb := B.bytes
  have hr := B.returns
  have hts := fun w (hw : w ∈ kTbl) => atoms_spec (ws := (kWs yM_find cM_find 10 none)) B.pre w (List.mem_cons_of_mem _ hw)
  have hown : s.vm.findClass RM = some m.cls := findClass_of_methodNamed B.named
  have hlocks := B.notSynchronized
  subst hsz
  have hD := hD0.self (sz := s.heap.size)
  generalize hAe : va_A [(md 0, .inr (5, [.int th, .int (nI N), .ref (md 1), .ref (md 2), .ref (md 3), .ref (md 4), .ref (md 5), .ref (md 6), .ref (md 7), .ref (md 8), .ref (md 9), .ref (md 10), .ref (md 11), .ref (md 12), .ref (md 13), .ref (md 14), .int (nI K), .ref (md 15), .ref (md 16), .ref (md 17), .int ib, .int ch, .int rs, .ref (md 18)])), (md 1, .inl (τ 0, 576, .inl xc)), (md 11, .inl (τ 0, 600, .inl lst)), (md 12, .inl (τ 0, 24, .inl fl)), (md 13, .inl (τ 0, 24, .inl fh)), (md 14, .inl (τ 0, 24, .inl fp))] s.heap.size = A at hD ⊢
  have hA : ∀ q : Nat, s.heap.size ≤ q → A q := fun q h => by rw [← hAe]; exact Or.inr h
  have hS : va_S A s.heap s.heap [] := va_S.rf
  have hP : va_P D vwCl [(md 0, .inr (5, [.int th, .int (nI N), .ref (md 1), .ref (md 2), .ref (md 3), .ref (md 4), .ref (md 5), .ref (md 6), .ref (md 7), .ref (md 8), .ref (md 9), .ref (md 10), .ref (md 11), .ref (md 12), .ref (md 13), .ref (md 14), .int (nI K), .ref (md 15), .ref (md 16), .ref (md 17), .int ib, .int ch, .int rs, .ref (md 18)])), (md 1, .inl (τ 0, 576, .inl xc)), (md 11, .inl (τ 0, 600, .inl lst)), (md 12, .inl (τ 0, 24, .inl fl)), (md 13, .inl (τ 0, 24, .inl fh)), (md 14, .inl (τ 0, 24, .inl fp))] s.heap := hP
  have hl := lv_entry ([.ref (md 0), .int (nI fr), .int (nI a), .int (nI fr)]) (n := 10) (Nat.le_of_ble_eq_true rfl)
  rw [lg_entry_eq]
  generalize (lg_sl ([.ref (md 0), .int (nI fr), .int (nI a), .int (nI fr)]) ++ List.replicate (10 - (lg_sl ([.ref (md 0), .int (nI fr), .int (nI a), .int (nI fr)])).length) Slot.unset).toArray = ls at hl ⊢
  have hl : lv_has ls 10 [(0, .ref (md 0)), (1, .int (nI fr)), (2, .int (nI a)), (3, .int (nI fr))] := hl
  skip
  refine lv_iload_n hx hb dM_find_0 rfl (lv_at hl 2 rfl) ?_
  refine lv_if_ge (tgt := 9) hx hb dM_find_1 (by decide) (fun c_1 => ?_) (fun c_1 => absurd (nI_pos' (by omega)) c_1)
  refine lv_aload_n hx hb dM_find_9 rfl (lv_at hl 0 rfl) ?_
  refine va_get (D := D) (ci := 5) (v := .ref (md 1)) (C := RM) (T := TM) (N := 24) hx hb hts iM hown hK hP 0 rfl rfl 2 (by decide) (hts _ w_342) (fun _ h9 => h9) rfl dM_find_10 ?_
  refine lv_bipush (v := 24) hx hb dM_find_13 (by decide) ?_
  refine lv_iload_n hx hb dM_find_15 rfl (lv_at hl 2 rfl) ?_
  refine lv_imul hx hb dM_find_16 ?_
  refine lv_topi (fun y_ ey_ => ?_)
  obtain rfl : y_ = nI (a * 24) := ey_.trans (k_mulL 24 _ rfl)
  refine lv_iload_n hx hb dM_find_17 rfl (lv_at hl 3 rfl) ?_
  refine lv_iadd hx hb dM_find_18 ?_
  refine lv_topi (fun y_ ey_ => ?_)
  obtain rfl : y_ = nI (a * 24 + fr) := ey_.trans (nI_add _ _)
  refine ka_iald (k := a * 24 + fr) hx hb hK hP 1 0 rfl rfl (by omega) (by omega) rfl dM_find_19 ?_
  refine lv_istore (lv' := [(4, .int (xc (a * 24 + fr))), (0, .ref (md 0)), (1, .int (nI fr)), (2, .int (nI a)), (3, .int (nI fr))]) hx hb dM_find_20 hl (by decide) rfl (fun ls hl => ?_)
  refine lv_iload_n hx hb dM_find_22 rfl (lv_at hl 3 rfl) ?_
  refine lv_if_lt (tgt := 39) hx hb dM_find_23 (by decide) (fun c_23 => absurd c_23 (nI_pos (by omega))) (fun c_23 => ?_)
  refine lv_aload_n hx hb dM_find_26 rfl (lv_at hl 1 rfl) ?_
  refine va_get (D := D) (ci := 5) (v := .ref (md 1)) (C := RM) (T := TM) (N := 24) hx hb hts iM hown hK hP 0 rfl rfl 2 (by decide) (hts _ w_342) (fun _ h9 => h9) rfl dM_find_27 ?_
  refine lv_bipush (v := 24) hx hb dM_find_30 (by decide) ?_
  refine lv_iload_n hx hb dM_find_32 rfl (lv_at hl 3 rfl) ?_
  refine lv_imul hx hb dM_find_33 ?_
  refine lv_topi (fun y_ ey_ => ?_)
  obtain rfl : y_ = nI (a * 24) := ey_.trans (k_mulL 24 _ rfl)
  refine lv_iload_n hx hb dM_find_34 rfl (lv_at hl 4 rfl) ?_
  refine lv_iadd hx hb dM_find_35 ?_
  refine lv_topi (fun y_ ey_ => ?_)
  obtain rfl : y_ = nI (a * 24 + fr) := ey_.trans (nI_add _ _)
  refine lv_ldc (v := 1000000) hx hb hown (hts _ w_330) dM_find_36 ?_
  refine ka_iast (k := a * 24 + fr) hx hb hK hP hD hS 1 0 rfl rfl (by omega) (by omega) rfl dM_find_38 (fun H locs hP hD hS => ?_)
  have hP : va_P D vwCl [(md 0, .inr (5, [.int th, .int (nI N), .ref (md 1), .ref (md 2), .ref (md 3), .ref (md 4), .ref (md 5), .ref (md 6), .ref (md 7), .ref (md 8), .ref (md 9), .ref (md 10), .ref (md 11), .ref (md 12), .ref (md 13), .ref (md 14), .int (nI K), .ref (md 15), .ref (md 16), .ref (md 17), .int ib, .int ch, .int rs, .ref (md 18)])), (md 1, .inl (τ 0, 576, .inl (upd xc (a * 24 + fr) 1000000))), (md 11, .inl (τ 0, 600, .inl lst)), (md 12, .inl (τ 0, 24, .inl fl)), (md 13, .inl (τ 0, 24, .inl fh)), (md 14, .inl (τ 0, 24, .inl fp))] H := hP
  have hD : va_D A [(md 0, .inr (5, [.int th, .int (nI N), .ref (md 1), .ref (md 2), .ref (md 3), .ref (md 4), .ref (md 5), .ref (md 6), .ref (md 7), .ref (md 8), .ref (md 9), .ref (md 10), .ref (md 11), .ref (md 12), .ref (md 13), .ref (md 14), .int (nI K), .ref (md 15), .ref (md 16), .ref (md 17), .int ib, .int ch, .int rs, .ref (md 18)])), (md 1, .inl (τ 0, 576, .inl (upd xc (a * 24 + fr) 1000000))), (md 11, .inl (τ 0, 600, .inl lst)), (md 12, .inl (τ 0, 24, .inl fl)), (md 13, .inl (τ 0, 24, .inl fh)), (md 14, .inl (τ 0, 24, .inl fp))] := hD
  refine lv_iconst (v := 0) hx hb dM_find_39 (by decide) ?_
  refine lv_istore (lv' := [(5, .int 0), (4, .int (xc (a * 24 + fr))), (0, .ref (md 0)), (1, .int (nI fr)), (2, .int (nI a)), (3, .int (nI fr))]) hx hb dM_find_40 hl (by decide) rfl (fun ls hl => ?_)
  refine lm_1 hx hb hml hown hts hK hA md th N K ib ch rs (upd xc (a * 24 + fr) 1000000) fl fh fp fr (nI a) (nI fr) (xc (a * 24 + fr)) lst (by first | assumption | omega) (by first | assumption | omega) (fun H locs ls hP hD hS hl => ?_) N 0 (by omega) _ _ ls hP hD hS (lv_sub hl [2, 3, 4, 5, 1, 0] rfl)
  refine lv_iconst (v := 0) hx hb dM_find_213 (by decide) ?_
  refine lv_istore (lv' := [(5, .int 0), (0, .ref (md 0)), (1, .int (nI fr)), (2, .int (nI a)), (3, .int (nI fr)), (4, .int (xc (a * 24 + fr)))]) hx hb dM_find_214 hl (by decide) rfl (fun ls hl => ?_)
  refine lm_4 hx hb hml hown hts hK hA md th N K ib ch rs (upd xc (a * 24 + fr) 1000000) (kItr (mL1 N (upd xc (a * 24 + fr) 1000000) fr) (N) (lst)) fr (nI a) (nI fr) (xc (a * 24 + fr)) fl fh fp (by first | assumption | omega) (fun H locs ls hP hD hS hl => ?_) N 0 (by omega) _ _ ls hP hD hS (lv_sub hl [1, 2, 3, 4, 5, 0] rfl)
  refine lv_iconst (v := 0) hx hb dM_find_328 (by decide) ?_
  refine lv_istore (lv' := [(5, .int 0), (0, .ref (md 0)), (1, .int (nI fr)), (2, .int (nI a)), (3, .int (nI fr)), (4, .int (xc (a * 24 + fr)))]) hx hb dM_find_329 hl (by decide) rfl (fun ls hl => ?_)
  refine lm_6 hx hb hml hown hts hK hA md th N K ib ch rs (upd xc (a * 24 + fr) 1000000) (kItr (mL1 N (upd xc (a * 24 + fr) 1000000) fr) (N) (lst)) ((kItr (mL4 N (kItr (mL1 N (upd xc (a * 24 + fr) 1000000) fr) (N) (lst))) (N) (fl, fh, fp)).1) ((kItr (mL4 N (kItr (mL1 N (upd xc (a * 24 + fr) 1000000) fr) (N) (lst))) (N) (fl, fh, fp)).2.1) fr (nI a) (nI fr) (xc (a * 24 + fr)) ((kItr (mL4 N (kItr (mL1 N (upd xc (a * 24 + fr) 1000000) fr) (N) (lst))) (N) (fl, fh, fp)).2.2) (by first | assumption | omega) (by first | assumption | omega) (fun H locs ls hP hD hS hl => ?_) N 0 (by omega) _ _ ls hP hD hS (lv_sub hl [1, 2, 3, 4, 5, 0] rfl)
  refine lv_iload_n hx hb dM_find_482 rfl (lv_at hl 2 rfl) ?_
  refine lv_if_lt (tgt := 499) hx hb dM_find_483 (by decide) (fun c_483 => absurd c_483 (nI_pos (by omega))) (fun c_483 => ?_)
  refine lv_aload_n hx hb dM_find_486 rfl (lv_at hl 0 rfl) ?_
  refine va_get (D := D) (ci := 5) (v := .ref (md 1)) (C := RM) (T := TM) (N := 24) hx hb hts iM hown hK hP 0 rfl rfl 2 (by decide) (hts _ w_342) (fun _ h9 => h9) rfl dM_find_487 ?_
  refine lv_bipush (v := 24) hx hb dM_find_490 (by decide) ?_
  refine lv_iload_n hx hb dM_find_492 rfl (lv_at hl 2 rfl) ?_
  refine lv_imul hx hb dM_find_493 ?_
  refine lv_topi (fun y_ ey_ => ?_)
  obtain rfl : y_ = nI (a * 24) := ey_.trans (k_mulL 24 _ rfl)
  refine lv_iload_n hx hb dM_find_494 rfl (lv_at hl 3 rfl) ?_
  refine lv_iadd hx hb dM_find_495 ?_
  refine lv_topi (fun y_ ey_ => ?_)
  obtain rfl : y_ = nI (a * 24 + fr) := ey_.trans (nI_add _ _)
  refine lv_iload hx hb dM_find_496 (lv_at hl 4 rfl) ?_
  refine ka_iast (k := a * 24 + fr) hx hb hK hP hD hS 1 0 rfl rfl (by omega) (by omega) rfl dM_find_498 (fun H locs hP hD hS => ?_)
  have hP : va_P D vwCl [(md 0, .inr (5, [.int th, .int (nI N), .ref (md 1), .ref (md 2), .ref (md 3), .ref (md 4), .ref (md 5), .ref (md 6), .ref (md 7), .ref (md 8), .ref (md 9), .ref (md 10), .ref (md 11), .ref (md 12), .ref (md 13), .ref (md 14), .int (nI K), .ref (md 15), .ref (md 16), .ref (md 17), .int ib, .int ch, .int rs, .ref (md 18)])), (md 1, .inl (τ 0, 576, .inl (upd (upd xc (a * 24 + fr) 1000000) (a * 24 + fr) (xc (a * 24 + fr))))), (md 11, .inl (τ 0, 600, .inl (kItr (mL1 N (upd xc (a * 24 + fr) 1000000) fr) (N) (lst)))), (md 12, .inl (τ 0, 24, .inl ((kItr (mL4 N (kItr (mL1 N (upd xc (a * 24 + fr) 1000000) fr) (N) (lst))) (N) (fl, fh, fp)).1))), (md 13, .inl (τ 0, 24, .inl ((kItr (mL4 N (kItr (mL1 N (upd xc (a * 24 + fr) 1000000) fr) (N) (lst))) (N) (fl, fh, fp)).2.1))), (md 14, .inl (τ 0, 24, .inl (kItr (mL6 N (upd xc (a * 24 + fr) 1000000) ((kItr (mL4 N (kItr (mL1 N (upd xc (a * 24 + fr) 1000000) fr) (N) (lst))) (N) (fl, fh, fp)).1) ((kItr (mL4 N (kItr (mL1 N (upd xc (a * 24 + fr) 1000000) fr) (N) (lst))) (N) (fl, fh, fp)).2.1) fr) (N) (((kItr (mL4 N (kItr (mL1 N (upd xc (a * 24 + fr) 1000000) fr) (N) (lst))) (N) (fl, fh, fp)).2.2)))))] H := hP
  have hD : va_D A [(md 0, .inr (5, [.int th, .int (nI N), .ref (md 1), .ref (md 2), .ref (md 3), .ref (md 4), .ref (md 5), .ref (md 6), .ref (md 7), .ref (md 8), .ref (md 9), .ref (md 10), .ref (md 11), .ref (md 12), .ref (md 13), .ref (md 14), .int (nI K), .ref (md 15), .ref (md 16), .ref (md 17), .int ib, .int ch, .int rs, .ref (md 18)])), (md 1, .inl (τ 0, 576, .inl (upd (upd xc (a * 24 + fr) 1000000) (a * 24 + fr) (xc (a * 24 + fr))))), (md 11, .inl (τ 0, 600, .inl (kItr (mL1 N (upd xc (a * 24 + fr) 1000000) fr) (N) (lst)))), (md 12, .inl (τ 0, 24, .inl ((kItr (mL4 N (kItr (mL1 N (upd xc (a * 24 + fr) 1000000) fr) (N) (lst))) (N) (fl, fh, fp)).1))), (md 13, .inl (τ 0, 24, .inl ((kItr (mL4 N (kItr (mL1 N (upd xc (a * 24 + fr) 1000000) fr) (N) (lst))) (N) (fl, fh, fp)).2.1))), (md 14, .inl (τ 0, 24, .inl (kItr (mL6 N (upd xc (a * 24 + fr) 1000000) ((kItr (mL4 N (kItr (mL1 N (upd xc (a * 24 + fr) 1000000) fr) (N) (lst))) (N) (fl, fh, fp)).1) ((kItr (mL4 N (kItr (mL1 N (upd xc (a * 24 + fr) 1000000) fr) (N) (lst))) (N) (fl, fh, fp)).2.1) fr) (N) (((kItr (mL4 N (kItr (mL1 N (upd xc (a * 24 + fr) 1000000) fr) (N) (lst))) (N) (fl, fh, fp)).2.2)))))] := hD
  rw [k_back] at hP hD
  exact k_vret hx hb hr hlocks hK hS hP hD dM_find_499
