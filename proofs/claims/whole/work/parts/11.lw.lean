set_option maxHeartbeats 4000000 in
set_option maxRecDepth 100000 in
theorem cl_reaches (l : Launch) (D : va_G) (τ : Nat → ClassId) (a0 : Nat) (a1 : Nat) (a2 : Nat) (a3 : Nat) (j : Nat) (fd : Nat → Int32) (fh : Nat → Int32) (fp : Nat → Int32) (ti : Int32) (hj : j < 24) : kMi l D τ yL_reaches (kWs yL_reaches cL_reaches 2 (some .boolean)) { frames := 0, cells := 0, slots := 0, locals := 0 } [.ref a0, .int (nI j)] [(a0, .inr (1, [.ref a1, .ref a2, .ref a3, .int ti])), (a1, .inl (τ 0, 24, .inl fd)), (a2, .inl (τ 0, 24, .inl fh)), (a3, .inl (τ 0, 24, .inl fp))] (kB (¬ fd j = (-1000000))) [(a0, .inr (1, [.ref a1, .ref a2, .ref a3, .int ti])), (a1, .inl (τ 0, 24, .inl fd)), (a2, .inl (τ 0, 24, .inl fh)), (a3, .inl (τ 0, 24, .inl fp))] := by
  intro sz
  refine Met.ofW (cc := cL_reaches) (maxL := 2) (ret := (some .boolean)) (by decide) rfl ?_
  intro p e s m args below meth c s₁ B hml hv
  obtain ⟨rfl, hsz, hP, hK, hD0⟩ := hv
  have hx := B.exec
  have hb := B.bytes
  have hr := B.returns
  have hts := fun w (hw : w ∈ kTbl) => atoms_spec (ws := (kWs yL_reaches cL_reaches 2 (some .boolean))) B.pre w (List.mem_cons_of_mem _ hw)
  have hown : s.vm.findClass RL = some m.cls := findClass_of_methodNamed B.named
  have hlocks := B.notSynchronized
  subst hsz
  have hD := hD0.self (sz := s.heap.size)
  generalize hAe : va_A [(a0, .inr (1, [.ref a1, .ref a2, .ref a3, .int ti])), (a1, .inl (τ 0, 24, .inl fd)), (a2, .inl (τ 0, 24, .inl fh)), (a3, .inl (τ 0, 24, .inl fp))] s.heap.size = A at hD ⊢
  have hA : ∀ q : Nat, s.heap.size ≤ q → A q := fun q h => by rw [← hAe]; exact Or.inr h
  have hS : va_S A s.heap s.heap [] := va_S.rf
  have hP : va_P D vwCl [(a0, .inr (1, [.ref a1, .ref a2, .ref a3, .int ti])), (a1, .inl (τ 0, 24, .inl fd)), (a2, .inl (τ 0, 24, .inl fh)), (a3, .inl (τ 0, 24, .inl fp))] s.heap := hP
  have hl := lv_entry ([.ref a0, .int (nI j)]) (n := 2) (Nat.le_of_ble_eq_true rfl)
  rw [lg_entry_eq]
  generalize (lg_sl ([.ref a0, .int (nI j)]) ++ List.replicate (2 - (lg_sl ([.ref a0, .int (nI j)])).length) Slot.unset).toArray = ls at hl ⊢
  have hl : lv_has ls 2 [(0, .ref a0), (1, .int (nI j))] := hl
  skip
  refine lv_aload_n hx hb dL_reaches_0 rfl (lv_at hl 0 rfl) ?_
  refine va_get (D := D) (ci := 1) (v := .ref a1) (C := RL) (T := TL) (N := 4) hx hb hts iL hown hK hP 0 rfl rfl 0 (by decide) (hts _ w_80) (fun _ h9 => h9) rfl dL_reaches_1 ?_
  refine lv_iload_n hx hb dL_reaches_4 rfl (lv_at hl 1 rfl) ?_
  refine ka_iald (k := j) hx hb hK hP 1 0 rfl rfl (by omega) (by omega) rfl dL_reaches_5 ?_
  refine lv_ldc (v := (-1000000)) hx hb hown (hts _ w_78) dL_reaches_6 ?_
  refine lv_icmp_eq (tgt := 15) hx hb dL_reaches_8 (by decide) (fun c_8 => ?_) (fun c_8 => ?_)
  · skip
    refine lv_iconst (v := 0) hx hb dL_reaches_15 (by decide) ?_
    exact k_zret hx hb hr hlocks hK hS rfl ((kB_f (by simp [c_8])).symm) hP hD dL_reaches_16
  · skip
    refine lv_iconst (v := 1) hx hb dL_reaches_11 (by decide) ?_
    refine lv_goto (tgt := 16) hx hb dL_reaches_12 (by decide) ?_
    exact k_zret hx hb hr hlocks hK hS rfl ((kB_t (by simp [c_8])).symm) hP hD dL_reaches_16
set_option maxHeartbeats 4000000 in
set_option maxRecDepth 100000 in
theorem cl_size (l : Launch) (D : va_G) (τ : Nat → ClassId) (a0 : Nat) (a1 : Nat) (a2 : Nat) (a3 : Nat) (j : Nat) (fd : Nat → Int32) (fh : Nat → Int32) (fp : Nat → Int32) (ti : Int32) (hj : j < 24) : kMi l D τ yL_sizeOfWay (kWs yL_sizeOfWay cL_sizeOfWay 2 (some .int)) { frames := 0, cells := 0, slots := 0, locals := 0 } [.ref a0, .int (nI j)] [(a0, .inr (1, [.ref a1, .ref a2, .ref a3, .int ti])), (a1, .inl (τ 0, 24, .inl fd)), (a2, .inl (τ 0, 24, .inl fh)), (a3, .inl (τ 0, 24, .inl fp))] (fh j + 1) [(a0, .inr (1, [.ref a1, .ref a2, .ref a3, .int ti])), (a1, .inl (τ 0, 24, .inl fd)), (a2, .inl (τ 0, 24, .inl fh)), (a3, .inl (τ 0, 24, .inl fp))] := by
  intro sz
  refine Met.ofW (cc := cL_sizeOfWay) (maxL := 2) (ret := (some .int)) (by decide) rfl ?_
  intro p e s m args below meth c s₁ B hml hv
  obtain ⟨rfl, hsz, hP, hK, hD0⟩ := hv
  have hx := B.exec
  have hb := B.bytes
  have hr := B.returns
  have hts := fun w (hw : w ∈ kTbl) => atoms_spec (ws := (kWs yL_sizeOfWay cL_sizeOfWay 2 (some .int))) B.pre w (List.mem_cons_of_mem _ hw)
  have hown : s.vm.findClass RL = some m.cls := findClass_of_methodNamed B.named
  have hlocks := B.notSynchronized
  subst hsz
  have hD := hD0.self (sz := s.heap.size)
  generalize hAe : va_A [(a0, .inr (1, [.ref a1, .ref a2, .ref a3, .int ti])), (a1, .inl (τ 0, 24, .inl fd)), (a2, .inl (τ 0, 24, .inl fh)), (a3, .inl (τ 0, 24, .inl fp))] s.heap.size = A at hD ⊢
  have hA : ∀ q : Nat, s.heap.size ≤ q → A q := fun q h => by rw [← hAe]; exact Or.inr h
  have hS : va_S A s.heap s.heap [] := va_S.rf
  have hP : va_P D vwCl [(a0, .inr (1, [.ref a1, .ref a2, .ref a3, .int ti])), (a1, .inl (τ 0, 24, .inl fd)), (a2, .inl (τ 0, 24, .inl fh)), (a3, .inl (τ 0, 24, .inl fp))] s.heap := hP
  have hl := lv_entry ([.ref a0, .int (nI j)]) (n := 2) (Nat.le_of_ble_eq_true rfl)
  rw [lg_entry_eq]
  generalize (lg_sl ([.ref a0, .int (nI j)]) ++ List.replicate (2 - (lg_sl ([.ref a0, .int (nI j)])).length) Slot.unset).toArray = ls at hl ⊢
  have hl : lv_has ls 2 [(0, .ref a0), (1, .int (nI j))] := hl
  skip
  refine lv_aload_n hx hb dL_sizeOfWay_0 rfl (lv_at hl 0 rfl) ?_
  refine va_get (D := D) (ci := 1) (v := .ref a2) (C := RL) (T := TL) (N := 4) hx hb hts iL hown hK hP 0 rfl rfl 1 (by decide) (hts _ w_82) (fun _ h9 => h9) rfl dL_sizeOfWay_1 ?_
  refine lv_iload_n hx hb dL_sizeOfWay_4 rfl (lv_at hl 1 rfl) ?_
  refine ka_iald (k := j) hx hb hK hP 2 0 rfl rfl (by omega) (by omega) rfl dL_sizeOfWay_5 ?_
  refine lv_iconst (v := 1) hx hb dL_sizeOfWay_6 (by decide) ?_
  refine lv_iadd hx hb dL_sizeOfWay_7 ?_
  exact k_iret hx hb hr hlocks hK hS rfl hP hD dL_sizeOfWay_8
set_option maxHeartbeats 4000000 in
set_option maxRecDepth 100000 in
theorem cl_better (l : Launch) (D : va_G) (τ : Nat → ClassId) (a0 : Nat) (a1 : Nat) (a2 : Nat) (a3 : Nat) (j : Nat) (fd : Nat → Int32) (fh : Nat → Int32) (fp : Nat → Int32) (ti : Int32) (x : Int32) (y : Int32) (hj : j < 24) : kMi l D τ yL_isBetter (kWs yL_isBetter cL_isBetter 4 (some .boolean)) { frames := 0, cells := 0, slots := 0, locals := 0 } [.ref a0, .int (nI j), .int x, .int y] [(a0, .inr (1, [.ref a1, .ref a2, .ref a3, .int ti])), (a1, .inl (τ 0, 24, .inl fd)), (a2, .inl (τ 0, 24, .inl fh)), (a3, .inl (τ 0, 24, .inl fp))] (kB (kBet fd fh j x y)) [(a0, .inr (1, [.ref a1, .ref a2, .ref a3, .int ti])), (a1, .inl (τ 0, 24, .inl fd)), (a2, .inl (τ 0, 24, .inl fh)), (a3, .inl (τ 0, 24, .inl fp))] := by
  intro sz
  refine Met.ofW (cc := cL_isBetter) (maxL := 4) (ret := (some .boolean)) (by decide) rfl ?_
  intro p e s m args below meth c s₁ B hml hv
  obtain ⟨rfl, hsz, hP, hK, hD0⟩ := hv
  have hx := B.exec
  have hb := B.bytes
  have hr := B.returns
  have hts := fun w (hw : w ∈ kTbl) => atoms_spec (ws := (kWs yL_isBetter cL_isBetter 4 (some .boolean))) B.pre w (List.mem_cons_of_mem _ hw)
  have hown : s.vm.findClass RL = some m.cls := findClass_of_methodNamed B.named
  have hlocks := B.notSynchronized
  subst hsz
  have hD := hD0.self (sz := s.heap.size)
  generalize hAe : va_A [(a0, .inr (1, [.ref a1, .ref a2, .ref a3, .int ti])), (a1, .inl (τ 0, 24, .inl fd)), (a2, .inl (τ 0, 24, .inl fh)), (a3, .inl (τ 0, 24, .inl fp))] s.heap.size = A at hD ⊢
  have hA : ∀ q : Nat, s.heap.size ≤ q → A q := fun q h => by rw [← hAe]; exact Or.inr h
  have hS : va_S A s.heap s.heap [] := va_S.rf
  have hP : va_P D vwCl [(a0, .inr (1, [.ref a1, .ref a2, .ref a3, .int ti])), (a1, .inl (τ 0, 24, .inl fd)), (a2, .inl (τ 0, 24, .inl fh)), (a3, .inl (τ 0, 24, .inl fp))] s.heap := hP
  have hl := lv_entry ([.ref a0, .int (nI j), .int x, .int y]) (n := 4) (Nat.le_of_ble_eq_true rfl)
  rw [lg_entry_eq]
  generalize (lg_sl ([.ref a0, .int (nI j), .int x, .int y]) ++ List.replicate (4 - (lg_sl ([.ref a0, .int (nI j), .int x, .int y])).length) Slot.unset).toArray = ls at hl ⊢
  have hl : lv_has ls 4 [(0, .ref a0), (1, .int (nI j)), (2, .int x), (3, .int y)] := hl
  skip
  refine lv_aload_n hx hb dL_isBetter_0 rfl (lv_at hl 0 rfl) ?_
  refine va_get (D := D) (ci := 1) (v := .ref a1) (C := RL) (T := TL) (N := 4) hx hb hts iL hown hK hP 0 rfl rfl 0 (by decide) (hts _ w_80) (fun _ h9 => h9) rfl dL_isBetter_1 ?_
  refine lv_iload_n hx hb dL_isBetter_4 rfl (lv_at hl 1 rfl) ?_
  refine ka_iald (k := j) hx hb hK hP 1 0 rfl rfl (by omega) (by omega) rfl dL_isBetter_5 ?_
  refine lv_ldc (v := (-1000000)) hx hb hown (hts _ w_78) dL_isBetter_6 ?_
  refine lv_icmp_eq (tgt := 41) hx hb dL_isBetter_8 (by decide) (fun c_8 => ?_) (fun c_8 => ?_)
  · skip
    refine lv_iconst (v := 1) hx hb dL_isBetter_41 (by decide) ?_
    refine lv_goto (tgt := 46) hx hb dL_isBetter_42 (by decide) ?_
    exact k_zret hx hb hr hlocks hK hS rfl ((kB_t (by simp [kBet, c_8])).symm) hP hD dL_isBetter_46
  · skip
    refine lv_iload_n hx hb dL_isBetter_11 rfl (lv_at hl 2 rfl) ?_
    refine lv_aload_n hx hb dL_isBetter_12 rfl (lv_at hl 0 rfl) ?_
    refine va_get (D := D) (ci := 1) (v := .ref a1) (C := RL) (T := TL) (N := 4) hx hb hts iL hown hK hP 0 rfl rfl 0 (by decide) (hts _ w_80) (fun _ h9 => h9) rfl dL_isBetter_13 ?_
    refine lv_iload_n hx hb dL_isBetter_16 rfl (lv_at hl 1 rfl) ?_
    refine ka_iald (k := j) hx hb hK hP 1 0 rfl rfl (by omega) (by omega) rfl dL_isBetter_17 ?_
    refine lv_icmp_lt (tgt := 41) hx hb dL_isBetter_18 (by decide) (fun c_18 => ?_) (fun c_18 => ?_)
    · skip
      refine lv_iconst (v := 1) hx hb dL_isBetter_41 (by decide) ?_
      refine lv_goto (tgt := 46) hx hb dL_isBetter_42 (by decide) ?_
      exact k_zret hx hb hr hlocks hK hS rfl ((kB_t (by simp [kBet, c_8, c_18, Int32.not_le.mpr c_18])).symm) hP hD dL_isBetter_46
    · skip
      refine lv_iload_n hx hb dL_isBetter_21 rfl (lv_at hl 2 rfl) ?_
      refine lv_aload_n hx hb dL_isBetter_22 rfl (lv_at hl 0 rfl) ?_
      refine va_get (D := D) (ci := 1) (v := .ref a1) (C := RL) (T := TL) (N := 4) hx hb hts iL hown hK hP 0 rfl rfl 0 (by decide) (hts _ w_80) (fun _ h9 => h9) rfl dL_isBetter_23 ?_
      refine lv_iload_n hx hb dL_isBetter_26 rfl (lv_at hl 1 rfl) ?_
      refine ka_iald (k := j) hx hb hK hP 1 0 rfl rfl (by omega) (by omega) rfl dL_isBetter_27 ?_
      refine lv_icmp_ne (tgt := 45) hx hb dL_isBetter_28 (by decide) (fun c_28 => ?_) (fun c_28 => ?_)
      · skip
        refine lv_iconst (v := 0) hx hb dL_isBetter_45 (by decide) ?_
        exact k_zret hx hb hr hlocks hK hS rfl ((kB_f (by simp [kBet, c_8, c_18, Int32.not_lt.mp c_18, c_28])).symm) hP hD dL_isBetter_46
      · skip
        refine lv_iload_n hx hb dL_isBetter_31 rfl (lv_at hl 3 rfl) ?_
        refine lv_aload_n hx hb dL_isBetter_32 rfl (lv_at hl 0 rfl) ?_
        refine va_get (D := D) (ci := 1) (v := .ref a2) (C := RL) (T := TL) (N := 4) hx hb hts iL hown hK hP 0 rfl rfl 1 (by decide) (hts _ w_82) (fun _ h9 => h9) rfl dL_isBetter_33 ?_
        refine lv_iload_n hx hb dL_isBetter_36 rfl (lv_at hl 1 rfl) ?_
        refine ka_iald (k := j) hx hb hK hP 2 0 rfl rfl (by omega) (by omega) rfl dL_isBetter_37 ?_
        refine lv_icmp_ge (tgt := 45) hx hb dL_isBetter_38 (by decide) (fun c_38 => ?_) (fun c_38 => ?_)
        · skip
          refine lv_iconst (v := 0) hx hb dL_isBetter_45 (by decide) ?_
          exact k_zret hx hb hr hlocks hK hS rfl ((kB_f (by simp [kBet, c_8, c_18, Int32.not_lt.mp c_18, c_28, c_38, Int32.not_lt.mpr c_38])).symm) hP hD dL_isBetter_46
        · skip
          refine lv_iconst (v := 1) hx hb dL_isBetter_41 (by decide) ?_
          refine lv_goto (tgt := 46) hx hb dL_isBetter_42 (by decide) ?_
          exact k_zret hx hb hr hlocks hK hS rfl ((kB_t (by simp [kBet, c_8, c_18, Int32.not_lt.mp c_18, c_28, c_38, Int32.not_le.mp c_38])).symm) hP hD dL_isBetter_46
set_option maxHeartbeats 4000000 in
set_option maxRecDepth 100000 in
theorem ll_follow {p : Program} {l : Launch} {e : Env} {s : State} {m : MethodId} {args : Array Value} {below : List Frame} {meth : Method} {c : Code} {Q : State → Prop} {D : va_G} {τ : Nat → ClassId} {A : Nat → Prop} (hx : p.tables.exec = Jvm.exec) (hb : c.code = cL_followArcs) (hml : c.maxLocals = 6) (hown : s.vm.findClass RL = some m.cls) (hts : ∀ w ∈ kTbl, w.before args s = true) (hK : va_K D vwCl (kTys τ) s) (hA : ∀ q : Nat, s.heap.size ≤ q → A q) (a0 : Nat) (a1 : Nat) (a2 : Nat) (a3 : Nat) (n0 : Nat) (n1 : Nat) (N : Nat) (ar : Int32) (len : Nat → Int32) (u : Nat) (gd : Nat → Int32) (gh : Nat → Int32) (fp : Nat → Int32) (ti : Int32) (hu : u < 24) (hN : N ≤ 24)
    (kx : ∀ (H : Heap) (locs : List Loc) (ls : Array Slot), va_P D vwCl [(a0, .inr (1, [.ref a1, .ref a2, .ref a3, .int ti])), (a1, .inl (τ 0, 24, .inl ((kItr (kFol len u) N (gd, gh, 0)).1))), (a2, .inl (τ 0, 24, .inl ((kItr (kFol len u) N (gd, gh, 0)).2.1))), (a3, .inl (τ 0, 24, .inl fp)), (n0, .inr (2, [.int (nI N), .int ar, .ref n1])), (n1, .inl (τ 0, 576, .inl len))] H → va_D A [(a0, .inr (1, [.ref a1, .ref a2, .ref a3, .int ti])), (a1, .inl (τ 0, 24, .inl ((kItr (kFol len u) N (gd, gh, 0)).1))), (a2, .inl (τ 0, 24, .inl ((kItr (kFol len u) N (gd, gh, 0)).2.1))), (a3, .inl (τ 0, 24, .inl fp)), (n0, .inr (2, [.int (nI N), .int ar, .ref n1])), (n1, .inl (τ 0, 576, .inl len))] → va_S A s.heap H locs → lv_has ls 6 [(0, .ref a0), (3, .int ((kItr (kFol len u) N (gd, gh, 0)).2.2))] → W p l e (headSpec (kWs yL_followArcs cL_followArcs 6 (some .int)) { frames := 1, cells := 0, slots := 0, locals := 23 }).room s m args below meth c H locs 0 0 Q (F0 m 100 ls [])) :
    ∀ (n k : Nat), k + n = N → ∀ (H : Heap) (locs : List Loc) (ls : Array Slot), va_P D vwCl [(a0, .inr (1, [.ref a1, .ref a2, .ref a3, .int ti])), (a1, .inl (τ 0, 24, .inl ((kItr (kFol len u) k (gd, gh, 0)).1))), (a2, .inl (τ 0, 24, .inl ((kItr (kFol len u) k (gd, gh, 0)).2.1))), (a3, .inl (τ 0, 24, .inl fp)), (n0, .inr (2, [.int (nI N), .int ar, .ref n1])), (n1, .inl (τ 0, 576, .inl len))] H → va_D A [(a0, .inr (1, [.ref a1, .ref a2, .ref a3, .int ti])), (a1, .inl (τ 0, 24, .inl ((kItr (kFol len u) k (gd, gh, 0)).1))), (a2, .inl (τ 0, 24, .inl ((kItr (kFol len u) k (gd, gh, 0)).2.1))), (a3, .inl (τ 0, 24, .inl fp)), (n0, .inr (2, [.int (nI N), .int ar, .ref n1])), (n1, .inl (τ 0, 576, .inl len))] → va_S A s.heap H locs → lv_has ls 6 [(0, .ref a0), (1, .int (nI u)), (2, .ref n0), (3, .int ((kItr (kFol len u) k (gd, gh, 0)).2.2)), (4, .int (nI k))] → W p l e (headSpec (kWs yL_followArcs cL_followArcs 6 (some .int)) { frames := 1, cells := 0, slots := 0, locals := 23 }).room s m args below meth c H locs 0 0 Q (F0 m 5 ls []) := by
  intro n
  induction n with
  | zero =>
    intro k hk H locs ls hP hD hS hl
    have hkN : N = k := by omega
    subst hkN
    revert hP hD hl
    generalize hst : (kItr (kFol len u) N (gd, gh, 0)) = st
    intro hP hD hl
    obtain ⟨fd, fh, imp⟩ := st
    have hP : va_P D vwCl [(a0, .inr (1, [.ref a1, .ref a2, .ref a3, .int ti])), (a1, .inl (τ 0, 24, .inl fd)), (a2, .inl (τ 0, 24, .inl fh)), (a3, .inl (τ 0, 24, .inl fp)), (n0, .inr (2, [.int (nI N), .int ar, .ref n1])), (n1, .inl (τ 0, 576, .inl len))] H := hP
    have hD : va_D A [(a0, .inr (1, [.ref a1, .ref a2, .ref a3, .int ti])), (a1, .inl (τ 0, 24, .inl fd)), (a2, .inl (τ 0, 24, .inl fh)), (a3, .inl (τ 0, 24, .inl fp)), (n0, .inr (2, [.int (nI N), .int ar, .ref n1])), (n1, .inl (τ 0, 576, .inl len))] := hD
    have hl : lv_has ls 6 [(0, .ref a0), (1, .int (nI u)), (2, .ref n0), (3, .int imp), (4, .int (nI N))] := hl
    refine lv_iload hx hb dL_followArcs_5 (lv_at hl 4 rfl) ?_
    refine lv_aload_n hx hb dL_followArcs_7 rfl (lv_at hl 2 rfl) ?_
    refine va_get (D := D) (ci := 2) (v := .int (nI N)) (C := RN) (T := TN) (N := 3) hx hb hts iN hown hK hP 4 rfl rfl 0 (by decide) (hts _ w_28) (fun _ h9 => h9) rfl dL_followArcs_8 ?_
    refine lv_icmp_ge (tgt := 100) hx hb dL_followArcs_11 (by decide) (fun c_11 => ?_) (fun c_11 => absurd (nI_le (Nat.le_refl _) (by omega)) c_11)
    exact kx H locs ls (by (try rw [hst]); exact hP) (by (try rw [hst]); exact hD) hS (by (try rw [hst]); exact lv_sub hl [0, 3] rfl)
  | succ n ih =>
    intro k hk H locs ls hP hD hS hl
    have hkN : k < N := by omega
    have ih := ih (k + 1) (by omega)
    rw [kItr_s] at ih
    revert hP hD hl ih
    generalize hst : (kItr (kFol len u) k (gd, gh, 0)) = st
    intro hP hD hl ih
    obtain ⟨fd, fh, imp⟩ := st
    have hP : va_P D vwCl [(a0, .inr (1, [.ref a1, .ref a2, .ref a3, .int ti])), (a1, .inl (τ 0, 24, .inl fd)), (a2, .inl (τ 0, 24, .inl fh)), (a3, .inl (τ 0, 24, .inl fp)), (n0, .inr (2, [.int (nI N), .int ar, .ref n1])), (n1, .inl (τ 0, 576, .inl len))] H := hP
    have hD : va_D A [(a0, .inr (1, [.ref a1, .ref a2, .ref a3, .int ti])), (a1, .inl (τ 0, 24, .inl fd)), (a2, .inl (τ 0, 24, .inl fh)), (a3, .inl (τ 0, 24, .inl fp)), (n0, .inr (2, [.int (nI N), .int ar, .ref n1])), (n1, .inl (τ 0, 576, .inl len))] := hD
    have hl : lv_has ls 6 [(0, .ref a0), (1, .int (nI u)), (2, .ref n0), (3, .int imp), (4, .int (nI k))] := hl
    refine lv_iload hx hb dL_followArcs_5 (lv_at hl 4 rfl) ?_
    refine lv_aload_n hx hb dL_followArcs_7 rfl (lv_at hl 2 rfl) ?_
    refine va_get (D := D) (ci := 2) (v := .int (nI N)) (C := RN) (T := TN) (N := 3) hx hb hts iN hown hK hP 4 rfl rfl 0 (by decide) (hts _ w_28) (fun _ h9 => h9) rfl dL_followArcs_8 ?_
    refine lv_icmp_ge (tgt := 100) hx hb dL_followArcs_11 (by decide) (fun c_11 => absurd c_11 (nI_ge hkN (by omega))) (fun c_11 => ?_)
    refine lv_aload_n hx hb dL_followArcs_14 rfl (lv_at hl 2 rfl) ?_
    refine lv_iload_n hx hb dL_followArcs_15 rfl (lv_at hl 1 rfl) ?_
    refine lv_iload hx hb dL_followArcs_16 (lv_at hl 4 rfl) ?_
    refine kc_Vi (As := [.int (nI u), .int (nI k)]) (rest := []) (wr := [(a0, .inr (1, [.ref a1, .ref a2, .ref a3, .int ti])), (a1, .inl (τ 0, 24, .inl fd)), (a2, .inl (τ 0, 24, .inl fh)), (a3, .inl (τ 0, 24, .inl fp))]) (W1 := [(a0, .inr (1, [.ref a1, .ref a2, .ref a3, .int ti])), (a1, .inl (τ 0, 24, .inl fd)), (a2, .inl (τ 0, 24, .inl fh)), (a3, .inl (τ 0, 24, .inl fp)), (n0, .inr (2, [.int (nI N), .int ar, .ref n1])), (n1, .inl (τ 0, 576, .inl len))]) ⟨hx, hb, hml, hown, hts⟩ (cn_len l D τ n0 n1 N u k ar len (by first | assumption | omega) (by first | assumption | omega)) (kcwV hts qN_lengthOf w_180 rfl rfl ⟨Nat.le_of_ble_eq_true rfl, Nat.le_of_ble_eq_true rfl⟩) hK hP hD hS hA [4, 5] [0, 1, 2, 3] [0, 1, 2, 3, 4, 5] rfl rfl (by decide) (by decide) (by decide) rfl rfl rfl (by decide) hl.1 rfl rfl (Nat.le_of_ble_eq_true rfl) ⟨Nat.zero_le _, Nat.zero_le _⟩ dL_followArcs_18 (fun H locs hP hD hS => ?_)
    refine lv_istore (lv' := [(5, .int (len (u * 24 + k))), (0, .ref a0), (1, .int (nI u)), (2, .ref n0), (3, .int imp), (4, .int (nI k))]) hx hb dL_followArcs_21 hl (by decide) rfl (fun ls hl => ?_)
    refine lv_iload hx hb dL_followArcs_23 (lv_at hl 0 rfl) ?_
    refine lv_ldc (v := (-1000000)) hx hb hown (hts _ w_78) dL_followArcs_25 ?_
    refine lv_icmp_eq (tgt := 94) hx hb dL_followArcs_27 (by decide) (fun c_27 => ?_) (fun c_27 => ?_)
    · skip
      refine lv_iinc (v := nI (k + 1)) (lv' := [(4, .int (nI (k + 1))), (5, .int (len (u * 24 + k))), (0, .ref a0), (1, .int (nI u)), (2, .ref n0), (3, .int imp)]) hx hb dL_followArcs_94 hl (k := 5) rfl (nI_1 _) (by decide) rfl (fun ls hl => ?_)
      refine lv_goto (tgt := 5) hx hb dL_followArcs_97 (by decide) ?_
      have e_ : (kFol len u) k (fd, fh, imp) = (fd, fh, imp) := by unfold kFol; exact kIf_t c_27
      (try rw [e_] at ih)
      exact ih H locs ls hP hD hS (lv_sub hl [2, 3, 4, 5, 0] rfl)
    · skip
      refine lv_aload_n hx hb dL_followArcs_30 rfl (lv_at hl 1 rfl) ?_
      refine lv_iload hx hb dL_followArcs_31 (lv_at hl 5 rfl) ?_
      refine lv_aload_n hx hb dL_followArcs_33 rfl (lv_at hl 1 rfl) ?_
      refine va_get (D := D) (ci := 1) (v := .ref a1) (C := RL) (T := TL) (N := 4) hx hb hts iL hown hK hP 0 rfl rfl 0 (by decide) (hts _ w_80) (fun _ h9 => h9) rfl dL_followArcs_34 ?_
      refine lv_iload_n hx hb dL_followArcs_37 rfl (lv_at hl 2 rfl) ?_
      refine ka_iald (k := u) hx hb hK hP 1 0 rfl rfl (by omega) (by omega) rfl dL_followArcs_38 ?_
      refine lv_iload hx hb dL_followArcs_39 (lv_at hl 0 rfl) ?_
      refine lv_iadd hx hb dL_followArcs_41 ?_
      refine lv_aload_n hx hb dL_followArcs_42 rfl (lv_at hl 1 rfl) ?_
      refine va_get (D := D) (ci := 1) (v := .ref a2) (C := RL) (T := TL) (N := 4) hx hb hts iL hown hK hP 0 rfl rfl 1 (by decide) (hts _ w_82) (fun _ h9 => h9) rfl dL_followArcs_43 ?_
      refine lv_iload_n hx hb dL_followArcs_46 rfl (lv_at hl 2 rfl) ?_
      refine ka_iald (k := u) hx hb hK hP 2 0 rfl rfl (by omega) (by omega) rfl dL_followArcs_47 ?_
      refine lv_iconst (v := 1) hx hb dL_followArcs_48 (by decide) ?_
      refine lv_iadd hx hb dL_followArcs_49 ?_
      refine kc_Vi (As := [.int (nI k), .int ((fd u) + (len (u * 24 + k))), .int ((fh u) + 1)]) (rest := []) (wr := [(n0, .inr (2, [.int (nI N), .int ar, .ref n1])), (n1, .inl (τ 0, 576, .inl len))]) (W1 := [(a0, .inr (1, [.ref a1, .ref a2, .ref a3, .int ti])), (a1, .inl (τ 0, 24, .inl fd)), (a2, .inl (τ 0, 24, .inl fh)), (a3, .inl (τ 0, 24, .inl fp)), (n0, .inr (2, [.int (nI N), .int ar, .ref n1])), (n1, .inl (τ 0, 576, .inl len))]) ⟨hx, hb, hml, hown, hts⟩ (cl_better l D τ a0 a1 a2 a3 k fd fh fp ti ((fd u) + (len (u * 24 + k))) ((fh u) + 1) (by first | assumption | omega)) (kcwV hts qL_isBetter w_184 rfl rfl ⟨Nat.le_of_ble_eq_true rfl, Nat.le_of_ble_eq_true rfl⟩) hK hP hD hS hA [0, 1, 2, 3] [4, 5] [2, 3, 4, 5, 0, 1] rfl rfl (by decide) (by decide) (by decide) rfl rfl rfl (by decide) hl.1 rfl rfl (Nat.le_of_ble_eq_true rfl) ⟨Nat.zero_le _, Nat.zero_le _⟩ dL_followArcs_50 (fun H locs hP hD hS => ?_)
      refine lv_if_eq (tgt := 94) hx hb dL_followArcs_53 (by decide) (fun c_53 => ?_) (fun c_53 => ?_)
      · skip
        have c_53 := kB_0.mp c_53
        refine lv_iinc (v := nI (k + 1)) (lv' := [(4, .int (nI (k + 1))), (5, .int (len (u * 24 + k))), (0, .ref a0), (1, .int (nI u)), (2, .ref n0), (3, .int imp)]) hx hb dL_followArcs_94 hl (k := 5) rfl (nI_1 _) (by decide) rfl (fun ls hl => ?_)
        refine lv_goto (tgt := 5) hx hb dL_followArcs_97 (by decide) ?_
        have e_ : (kFol len u) k (fd, fh, imp) = (fd, fh, imp) := by unfold kFol; rw [kIf_f c_27]; exact kIf_f c_53
        (try rw [e_] at ih)
        exact ih H locs ls hP hD hS (lv_sub hl [2, 3, 4, 5, 0] rfl)
      · skip
        have c_53 := kB_1.mp c_53
        refine lv_aload_n hx hb dL_followArcs_56 rfl (lv_at hl 1 rfl) ?_
        refine va_get (D := D) (ci := 1) (v := .ref a1) (C := RL) (T := TL) (N := 4) hx hb hts iL hown hK hP 0 rfl rfl 0 (by decide) (hts _ w_80) (fun _ h9 => h9) rfl dL_followArcs_57 ?_
        refine lv_iload hx hb dL_followArcs_60 (lv_at hl 5 rfl) ?_
        refine lv_aload_n hx hb dL_followArcs_62 rfl (lv_at hl 1 rfl) ?_
        refine va_get (D := D) (ci := 1) (v := .ref a1) (C := RL) (T := TL) (N := 4) hx hb hts iL hown hK hP 0 rfl rfl 0 (by decide) (hts _ w_80) (fun _ h9 => h9) rfl dL_followArcs_63 ?_
        refine lv_iload_n hx hb dL_followArcs_66 rfl (lv_at hl 2 rfl) ?_
        refine ka_iald (k := u) hx hb hK hP 1 0 rfl rfl (by omega) (by omega) rfl dL_followArcs_67 ?_
        refine lv_iload hx hb dL_followArcs_68 (lv_at hl 0 rfl) ?_
        refine lv_iadd hx hb dL_followArcs_70 ?_
        refine ka_iast (k := k) hx hb hK hP hD hS 1 0 rfl rfl (by omega) (by omega) rfl dL_followArcs_71 (fun H locs hP hD hS => ?_)
        have hP : va_P D vwCl [(a0, .inr (1, [.ref a1, .ref a2, .ref a3, .int ti])), (a1, .inl (τ 0, 24, .inl (upd fd k ((fd u) + (len (u * 24 + k)))))), (a2, .inl (τ 0, 24, .inl fh)), (a3, .inl (τ 0, 24, .inl fp)), (n0, .inr (2, [.int (nI N), .int ar, .ref n1])), (n1, .inl (τ 0, 576, .inl len))] H := hP
        have hD : va_D A [(a0, .inr (1, [.ref a1, .ref a2, .ref a3, .int ti])), (a1, .inl (τ 0, 24, .inl (upd fd k ((fd u) + (len (u * 24 + k)))))), (a2, .inl (τ 0, 24, .inl fh)), (a3, .inl (τ 0, 24, .inl fp)), (n0, .inr (2, [.int (nI N), .int ar, .ref n1])), (n1, .inl (τ 0, 576, .inl len))] := hD
        refine lv_aload_n hx hb dL_followArcs_72 rfl (lv_at hl 1 rfl) ?_
        refine va_get (D := D) (ci := 1) (v := .ref a2) (C := RL) (T := TL) (N := 4) hx hb hts iL hown hK hP 0 rfl rfl 1 (by decide) (hts _ w_82) (fun _ h9 => h9) rfl dL_followArcs_73 ?_
        refine lv_iload hx hb dL_followArcs_76 (lv_at hl 5 rfl) ?_
        refine lv_aload_n hx hb dL_followArcs_78 rfl (lv_at hl 1 rfl) ?_
        refine va_get (D := D) (ci := 1) (v := .ref a2) (C := RL) (T := TL) (N := 4) hx hb hts iL hown hK hP 0 rfl rfl 1 (by decide) (hts _ w_82) (fun _ h9 => h9) rfl dL_followArcs_79 ?_
        refine lv_iload_n hx hb dL_followArcs_82 rfl (lv_at hl 2 rfl) ?_
        refine ka_iald (k := u) hx hb hK hP 2 0 rfl rfl (by omega) (by omega) rfl dL_followArcs_83 ?_
        refine lv_iconst (v := 1) hx hb dL_followArcs_84 (by decide) ?_
        refine lv_iadd hx hb dL_followArcs_85 ?_
        refine ka_iast (k := k) hx hb hK hP hD hS 2 0 rfl rfl (by omega) (by omega) rfl dL_followArcs_86 (fun H locs hP hD hS => ?_)
        have hP : va_P D vwCl [(a0, .inr (1, [.ref a1, .ref a2, .ref a3, .int ti])), (a1, .inl (τ 0, 24, .inl (upd fd k ((fd u) + (len (u * 24 + k)))))), (a2, .inl (τ 0, 24, .inl (upd fh k ((fh u) + 1)))), (a3, .inl (τ 0, 24, .inl fp)), (n0, .inr (2, [.int (nI N), .int ar, .ref n1])), (n1, .inl (τ 0, 576, .inl len))] H := hP
        have hD : va_D A [(a0, .inr (1, [.ref a1, .ref a2, .ref a3, .int ti])), (a1, .inl (τ 0, 24, .inl (upd fd k ((fd u) + (len (u * 24 + k)))))), (a2, .inl (τ 0, 24, .inl (upd fh k ((fh u) + 1)))), (a3, .inl (τ 0, 24, .inl fp)), (n0, .inr (2, [.int (nI N), .int ar, .ref n1])), (n1, .inl (τ 0, 576, .inl len))] := hD
        refine lv_iload_n hx hb dL_followArcs_87 rfl (lv_at hl 4 rfl) ?_
        refine lv_iconst (v := 1) hx hb dL_followArcs_88 (by decide) ?_
        refine lv_iload hx hb dL_followArcs_89 (lv_at hl 5 rfl) ?_
        refine lv_ishl hx hb dL_followArcs_91 ?_
        refine lv_ior hx hb dL_followArcs_92 ?_
        refine lv_istore_n (lv' := [(3, .int (imp ||| (1 <<< ((nI k) &&& 31)))), (5, .int (len (u * 24 + k))), (0, .ref a0), (1, .int (nI u)), (2, .ref n0), (4, .int (nI k))]) hx hb dL_followArcs_93 rfl hl (by decide) rfl (fun ls hl => ?_)
        refine lv_iinc (v := nI (k + 1)) (lv' := [(4, .int (nI (k + 1))), (3, .int (imp ||| (1 <<< ((nI k) &&& 31)))), (5, .int (len (u * 24 + k))), (0, .ref a0), (1, .int (nI u)), (2, .ref n0)]) hx hb dL_followArcs_94 hl (k := 5) rfl (nI_1 _) (by decide) rfl (fun ls hl => ?_)
        refine lv_goto (tgt := 5) hx hb dL_followArcs_97 (by decide) ?_
        have e_ : (kFol len u) k (fd, fh, imp) = (upd fd k ((fd u) + (len (u * 24 + k))), upd fh k ((fh u) + 1), imp ||| (1 <<< ((nI k) &&& 31))) := by unfold kFol; rw [kIf_f c_27]; exact kIf_t c_53
        (try rw [e_] at ih)
        exact ih H locs ls hP hD hS (lv_sub hl [3, 4, 5, 1, 0] rfl)
set_option maxHeartbeats 4000000 in
set_option maxRecDepth 100000 in
theorem cl_follow (l : Launch) (D : va_G) (τ : Nat → ClassId) (a0 : Nat) (a1 : Nat) (a2 : Nat) (a3 : Nat) (n0 : Nat) (n1 : Nat) (N : Nat) (ar : Int32) (len : Nat → Int32) (u : Nat) (fd : Nat → Int32) (fh : Nat → Int32) (fp : Nat → Int32) (ti : Int32) (hu : u < 24) (hN : N ≤ 24) : kMi l D τ yL_followArcs (kWs yL_followArcs cL_followArcs 6 (some .int)) { frames := 1, cells := 0, slots := 0, locals := 23 } [.ref a0, .int (nI u), .ref n0] [(a0, .inr (1, [.ref a1, .ref a2, .ref a3, .int ti])), (a1, .inl (τ 0, 24, .inl fd)), (a2, .inl (τ 0, 24, .inl fh)), (a3, .inl (τ 0, 24, .inl fp)), (n0, .inr (2, [.int (nI N), .int ar, .ref n1])), (n1, .inl (τ 0, 576, .inl len))] ((kFolA N len u fd fh).2.2) [(a0, .inr (1, [.ref a1, .ref a2, .ref a3, .int ti])), (a1, .inl (τ 0, 24, .inl ((kFolA N len u fd fh).1))), (a2, .inl (τ 0, 24, .inl ((kFolA N len u fd fh).2.1))), (a3, .inl (τ 0, 24, .inl fp)), (n0, .inr (2, [.int (nI N), .int ar, .ref n1])), (n1, .inl (τ 0, 576, .inl len))] := by
  intro sz
  refine Met.ofW (cc := cL_followArcs) (maxL := 6) (ret := (some .int)) (by decide) rfl ?_
  intro p e s m args below meth c s₁ B hml hv
  obtain ⟨rfl, hsz, hP, hK, hD0⟩ := hv
  have hx := B.exec
  have hb := B.bytes
  have hr := B.returns
  have hts := fun w (hw : w ∈ kTbl) => atoms_spec (ws := (kWs yL_followArcs cL_followArcs 6 (some .int))) B.pre w (List.mem_cons_of_mem _ hw)
  have hown : s.vm.findClass RL = some m.cls := findClass_of_methodNamed B.named
  have hlocks := B.notSynchronized
  subst hsz
  have hD := hD0.self (sz := s.heap.size)
  generalize hAe : va_A [(a0, .inr (1, [.ref a1, .ref a2, .ref a3, .int ti])), (a1, .inl (τ 0, 24, .inl fd)), (a2, .inl (τ 0, 24, .inl fh)), (a3, .inl (τ 0, 24, .inl fp)), (n0, .inr (2, [.int (nI N), .int ar, .ref n1])), (n1, .inl (τ 0, 576, .inl len))] s.heap.size = A at hD ⊢
  have hA : ∀ q : Nat, s.heap.size ≤ q → A q := fun q h => by rw [← hAe]; exact Or.inr h
  have hS : va_S A s.heap s.heap [] := va_S.rf
  have hP : va_P D vwCl [(a0, .inr (1, [.ref a1, .ref a2, .ref a3, .int ti])), (a1, .inl (τ 0, 24, .inl fd)), (a2, .inl (τ 0, 24, .inl fh)), (a3, .inl (τ 0, 24, .inl fp)), (n0, .inr (2, [.int (nI N), .int ar, .ref n1])), (n1, .inl (τ 0, 576, .inl len))] s.heap := hP
  have hl := lv_entry ([.ref a0, .int (nI u), .ref n0]) (n := 6) (Nat.le_of_ble_eq_true rfl)
  rw [lg_entry_eq]
  generalize (lg_sl ([.ref a0, .int (nI u), .ref n0]) ++ List.replicate (6 - (lg_sl ([.ref a0, .int (nI u), .ref n0])).length) Slot.unset).toArray = ls at hl ⊢
  have hl : lv_has ls 6 [(0, .ref a0), (1, .int (nI u)), (2, .ref n0)] := hl
  skip
  refine lv_iconst (v := 0) hx hb dL_followArcs_0 (by decide) ?_
  refine lv_istore_n (lv' := [(3, .int 0), (0, .ref a0), (1, .int (nI u)), (2, .ref n0)]) hx hb dL_followArcs_1 rfl hl (by decide) rfl (fun ls hl => ?_)
  refine lv_iconst (v := 0) hx hb dL_followArcs_2 (by decide) ?_
  refine lv_istore (lv' := [(4, .int 0), (3, .int 0), (0, .ref a0), (1, .int (nI u)), (2, .ref n0)]) hx hb dL_followArcs_3 hl (by decide) rfl (fun ls hl => ?_)
  refine ll_follow hx hb hml hown hts hK hA a0 a1 a2 a3 n0 n1 N ar len u fd fh fp ti (by first | assumption | omega) (by first | assumption | omega) (fun H locs ls hP hD hS hl => ?_) N 0 (by omega) _ _ ls hP hD hS (lv_sub hl [2, 3, 4, 1, 0] rfl)
  refine lv_iload_n hx hb dL_followArcs_100 rfl (lv_at hl 1 rfl) ?_
  exact k_iret hx hb hr hlocks hK hS rfl hP hD dL_followArcs_101
set_option maxHeartbeats 4000000 in
set_option maxRecDepth 100000 in
theorem ll_tight {p : Program} {l : Launch} {e : Env} {s : State} {m : MethodId} {args : Array Value} {below : List Frame} {meth : Method} {c : Code} {Q : State → Prop} {D : va_G} {τ : Nat → ClassId} {A : Nat → Prop} (hx : p.tables.exec = Jvm.exec) (hb : c.code = cL_findTightArcs) (hml : c.maxLocals = 5) (hown : s.vm.findClass RL = some m.cls) (hts : ∀ w ∈ kTbl, w.before args s = true) (hK : va_K D vwCl (kTys τ) s) (hA : ∀ q : Nat, s.heap.size ≤ q → A q) (a0 : Nat) (a1 : Nat) (a2 : Nat) (a3 : Nat) (n0 : Nat) (n1 : Nat) (N : Nat) (ar : Int32) (len : Nat → Int32) (u : Nat) (fd : Nat → Int32) (fh : Nat → Int32) (gp : Nat → Int32) (gt : Int32) (hu : u < 24) (hN : N ≤ 24)
    (kx : ∀ (H : Heap) (locs : List Loc) (ls : Array Slot), va_P D vwCl [(a0, .inr (1, [.ref a1, .ref a2, .ref a3, .int ((kItr (kTg len fd fh u) N (gp, gt)).2)])), (a1, .inl (τ 0, 24, .inl fd)), (a2, .inl (τ 0, 24, .inl fh)), (a3, .inl (τ 0, 24, .inl ((kItr (kTg len fd fh u) N (gp, gt)).1))), (n0, .inr (2, [.int (nI N), .int ar, .ref n1])), (n1, .inl (τ 0, 576, .inl len))] H → va_D A [(a0, .inr (1, [.ref a1, .ref a2, .ref a3, .int ((kItr (kTg len fd fh u) N (gp, gt)).2)])), (a1, .inl (τ 0, 24, .inl fd)), (a2, .inl (τ 0, 24, .inl fh)), (a3, .inl (τ 0, 24, .inl ((kItr (kTg len fd fh u) N (gp, gt)).1))), (n0, .inr (2, [.int (nI N), .int ar, .ref n1])), (n1, .inl (τ 0, 576, .inl len))] → va_S A s.heap H locs → lv_has ls 5 [(0, .ref a0)] → W p l e (headSpec (kWs yL_findTightArcs cL_findTightArcs 5 none) { frames := 1, cells := 0, slots := 0, locals := 22 }).room s m args below meth c H locs 0 0 Q (F0 m 94 ls [])) :
    ∀ (n k : Nat), k + n = N → ∀ (H : Heap) (locs : List Loc) (ls : Array Slot), va_P D vwCl [(a0, .inr (1, [.ref a1, .ref a2, .ref a3, .int ((kItr (kTg len fd fh u) k (gp, gt)).2)])), (a1, .inl (τ 0, 24, .inl fd)), (a2, .inl (τ 0, 24, .inl fh)), (a3, .inl (τ 0, 24, .inl ((kItr (kTg len fd fh u) k (gp, gt)).1))), (n0, .inr (2, [.int (nI N), .int ar, .ref n1])), (n1, .inl (τ 0, 576, .inl len))] H → va_D A [(a0, .inr (1, [.ref a1, .ref a2, .ref a3, .int ((kItr (kTg len fd fh u) k (gp, gt)).2)])), (a1, .inl (τ 0, 24, .inl fd)), (a2, .inl (τ 0, 24, .inl fh)), (a3, .inl (τ 0, 24, .inl ((kItr (kTg len fd fh u) k (gp, gt)).1))), (n0, .inr (2, [.int (nI N), .int ar, .ref n1])), (n1, .inl (τ 0, 576, .inl len))] → va_S A s.heap H locs → lv_has ls 5 [(0, .ref a0), (1, .int (nI u)), (2, .ref n0), (3, .int (nI k))] → W p l e (headSpec (kWs yL_findTightArcs cL_findTightArcs 5 none) { frames := 1, cells := 0, slots := 0, locals := 22 }).room s m args below meth c H locs 0 0 Q (F0 m 2 ls []) := by
  intro n
  induction n with
  | zero =>
    intro k hk H locs ls hP hD hS hl
    have hkN : N = k := by omega
    subst hkN
    revert hP hD hl
    generalize hst : (kItr (kTg len fd fh u) N (gp, gt)) = st
    intro hP hD hl
    obtain ⟨fp, ti⟩ := st
    have hP : va_P D vwCl [(a0, .inr (1, [.ref a1, .ref a2, .ref a3, .int ti])), (a1, .inl (τ 0, 24, .inl fd)), (a2, .inl (τ 0, 24, .inl fh)), (a3, .inl (τ 0, 24, .inl fp)), (n0, .inr (2, [.int (nI N), .int ar, .ref n1])), (n1, .inl (τ 0, 576, .inl len))] H := hP
    have hD : va_D A [(a0, .inr (1, [.ref a1, .ref a2, .ref a3, .int ti])), (a1, .inl (τ 0, 24, .inl fd)), (a2, .inl (τ 0, 24, .inl fh)), (a3, .inl (τ 0, 24, .inl fp)), (n0, .inr (2, [.int (nI N), .int ar, .ref n1])), (n1, .inl (τ 0, 576, .inl len))] := hD
    have hl : lv_has ls 5 [(0, .ref a0), (1, .int (nI u)), (2, .ref n0), (3, .int (nI N))] := hl
    refine lv_iload_n hx hb dL_findTightArcs_2 rfl (lv_at hl 3 rfl) ?_
    refine lv_aload_n hx hb dL_findTightArcs_3 rfl (lv_at hl 2 rfl) ?_
    refine va_get (D := D) (ci := 2) (v := .int (nI N)) (C := RN) (T := TN) (N := 3) hx hb hts iN hown hK hP 4 rfl rfl 0 (by decide) (hts _ w_28) (fun _ h9 => h9) rfl dL_findTightArcs_4 ?_
    refine lv_icmp_ge (tgt := 94) hx hb dL_findTightArcs_7 (by decide) (fun c_7 => ?_) (fun c_7 => absurd (nI_le (Nat.le_refl _) (by omega)) c_7)
    exact kx H locs ls (by (try rw [hst]); exact hP) (by (try rw [hst]); exact hD) hS (by (try rw [hst]); exact lv_sub hl [0] rfl)
  | succ n ih =>
    intro k hk H locs ls hP hD hS hl
    have hkN : k < N := by omega
    have ih := ih (k + 1) (by omega)
    rw [kItr_s] at ih
    revert hP hD hl ih
    generalize hst : (kItr (kTg len fd fh u) k (gp, gt)) = st
    intro hP hD hl ih
    obtain ⟨fp, ti⟩ := st
    have hP : va_P D vwCl [(a0, .inr (1, [.ref a1, .ref a2, .ref a3, .int ti])), (a1, .inl (τ 0, 24, .inl fd)), (a2, .inl (τ 0, 24, .inl fh)), (a3, .inl (τ 0, 24, .inl fp)), (n0, .inr (2, [.int (nI N), .int ar, .ref n1])), (n1, .inl (τ 0, 576, .inl len))] H := hP
    have hD : va_D A [(a0, .inr (1, [.ref a1, .ref a2, .ref a3, .int ti])), (a1, .inl (τ 0, 24, .inl fd)), (a2, .inl (τ 0, 24, .inl fh)), (a3, .inl (τ 0, 24, .inl fp)), (n0, .inr (2, [.int (nI N), .int ar, .ref n1])), (n1, .inl (τ 0, 576, .inl len))] := hD
    have hl : lv_has ls 5 [(0, .ref a0), (1, .int (nI u)), (2, .ref n0), (3, .int (nI k))] := hl
    refine lv_iload_n hx hb dL_findTightArcs_2 rfl (lv_at hl 3 rfl) ?_
    refine lv_aload_n hx hb dL_findTightArcs_3 rfl (lv_at hl 2 rfl) ?_
    refine va_get (D := D) (ci := 2) (v := .int (nI N)) (C := RN) (T := TN) (N := 3) hx hb hts iN hown hK hP 4 rfl rfl 0 (by decide) (hts _ w_28) (fun _ h9 => h9) rfl dL_findTightArcs_4 ?_
    refine lv_icmp_ge (tgt := 94) hx hb dL_findTightArcs_7 (by decide) (fun c_7 => absurd c_7 (nI_ge hkN (by omega))) (fun c_7 => ?_)
    refine lv_aload_n hx hb dL_findTightArcs_10 rfl (lv_at hl 2 rfl) ?_
    refine lv_iload_n hx hb dL_findTightArcs_11 rfl (lv_at hl 1 rfl) ?_
    refine lv_iload_n hx hb dL_findTightArcs_12 rfl (lv_at hl 3 rfl) ?_
    refine kc_Vi (As := [.int (nI u), .int (nI k)]) (rest := []) (wr := [(a0, .inr (1, [.ref a1, .ref a2, .ref a3, .int ti])), (a1, .inl (τ 0, 24, .inl fd)), (a2, .inl (τ 0, 24, .inl fh)), (a3, .inl (τ 0, 24, .inl fp))]) (W1 := [(a0, .inr (1, [.ref a1, .ref a2, .ref a3, .int ti])), (a1, .inl (τ 0, 24, .inl fd)), (a2, .inl (τ 0, 24, .inl fh)), (a3, .inl (τ 0, 24, .inl fp)), (n0, .inr (2, [.int (nI N), .int ar, .ref n1])), (n1, .inl (τ 0, 576, .inl len))]) ⟨hx, hb, hml, hown, hts⟩ (cn_len l D τ n0 n1 N u k ar len (by first | assumption | omega) (by first | assumption | omega)) (kcwV hts qN_lengthOf w_180 rfl rfl ⟨Nat.le_of_ble_eq_true rfl, Nat.le_of_ble_eq_true rfl⟩) hK hP hD hS hA [4, 5] [0, 1, 2, 3] [0, 1, 2, 3, 4, 5] rfl rfl (by decide) (by decide) (by decide) rfl rfl rfl (by decide) hl.1 rfl rfl (Nat.le_of_ble_eq_true rfl) ⟨Nat.zero_le _, Nat.zero_le _⟩ dL_findTightArcs_13 (fun H locs hP hD hS => ?_)
    refine lv_istore (lv' := [(4, .int (len (u * 24 + k))), (0, .ref a0), (1, .int (nI u)), (2, .ref n0), (3, .int (nI k))]) hx hb dL_findTightArcs_16 hl (by decide) rfl (fun ls hl => ?_)
    refine lv_iload hx hb dL_findTightArcs_18 (lv_at hl 0 rfl) ?_
    refine lv_ldc (v := (-1000000)) hx hb hown (hts _ w_78) dL_findTightArcs_20 ?_
    refine lv_icmp_eq (tgt := 88) hx hb dL_findTightArcs_22 (by decide) (fun c_22 => ?_) (fun c_22 => ?_)
    · skip
      refine lv_iinc (v := nI (k + 1)) (lv' := [(3, .int (nI (k + 1))), (4, .int (len (u * 24 + k))), (0, .ref a0), (1, .int (nI u)), (2, .ref n0)]) hx hb dL_findTightArcs_88 hl (k := 4) rfl (nI_1 _) (by decide) rfl (fun ls hl => ?_)
      refine lv_goto (tgt := 2) hx hb dL_findTightArcs_91 (by decide) ?_
      have e_ : (kTg len fd fh u) k (fp, ti) = (fp, ti) := by unfold kTg; exact kIf_t c_22
      (try rw [e_] at ih)
      exact ih H locs ls hP hD hS (lv_sub hl [2, 3, 4, 0] rfl)
    · skip
      refine lv_aload_n hx hb dL_findTightArcs_25 rfl (lv_at hl 1 rfl) ?_
      refine va_get (D := D) (ci := 1) (v := .ref a1) (C := RL) (T := TL) (N := 4) hx hb hts iL hown hK hP 0 rfl rfl 0 (by decide) (hts _ w_80) (fun _ h9 => h9) rfl dL_findTightArcs_26 ?_
      refine lv_iload_n hx hb dL_findTightArcs_29 rfl (lv_at hl 2 rfl) ?_
      refine ka_iald (k := u) hx hb hK hP 1 0 rfl rfl (by omega) (by omega) rfl dL_findTightArcs_30 ?_
      refine lv_iload hx hb dL_findTightArcs_31 (lv_at hl 0 rfl) ?_
      refine lv_iadd hx hb dL_findTightArcs_33 ?_
      refine lv_aload_n hx hb dL_findTightArcs_34 rfl (lv_at hl 1 rfl) ?_
      refine va_get (D := D) (ci := 1) (v := .ref a1) (C := RL) (T := TL) (N := 4) hx hb hts iL hown hK hP 0 rfl rfl 0 (by decide) (hts _ w_80) (fun _ h9 => h9) rfl dL_findTightArcs_35 ?_
      refine lv_iload_n hx hb dL_findTightArcs_38 rfl (lv_at hl 4 rfl) ?_
      refine ka_iald (k := k) hx hb hK hP 1 0 rfl rfl (by omega) (by omega) rfl dL_findTightArcs_39 ?_
      refine lv_icmp_ne (tgt := 88) hx hb dL_findTightArcs_40 (by decide) (fun c_40 => ?_) (fun c_40 => ?_)
      · skip
        refine lv_iinc (v := nI (k + 1)) (lv' := [(3, .int (nI (k + 1))), (4, .int (len (u * 24 + k))), (0, .ref a0), (1, .int (nI u)), (2, .ref n0)]) hx hb dL_findTightArcs_88 hl (k := 4) rfl (nI_1 _) (by decide) rfl (fun ls hl => ?_)
        refine lv_goto (tgt := 2) hx hb dL_findTightArcs_91 (by decide) ?_
        have e_ : (kTg len fd fh u) k (fp, ti) = (fp, ti) := by unfold kTg; rw [kIf_f c_22]; exact kIf_f c_40
        (try rw [e_] at ih)
        exact ih H locs ls hP hD hS (lv_sub hl [2, 3, 4, 0] rfl)
      · skip
        refine lv_aload_n hx hb dL_findTightArcs_43 rfl (lv_at hl 1 rfl) ?_
        refine lv_dup hx hb dL_findTightArcs_44 rfl ?_
        refine va_get (D := D) (ci := 1) (v := .int ti) (C := RL) (T := TL) (N := 4) hx hb hts iL hown hK hP 0 rfl rfl 3 (by decide) (hts _ w_86) (fun _ h9 => h9) rfl dL_findTightArcs_45 ?_
        refine lv_iconst (v := 1) hx hb dL_findTightArcs_48 (by decide) ?_
        refine lv_iadd hx hb dL_findTightArcs_49 ?_
        refine va_put (D := D) (ci := 1) (v := .int (ti + 1)) (ty := .int) (C := RL) (T := TL) (N := 4) hx hb hts iL tyL tyL_ok nmL hown hK hP hD hS 0 rfl rfl 3 (by decide) (hts _ w_86) (fun _ h9 => h9) rfl (by decide +kernel) rfl rfl (Nat.le_of_ble_eq_true rfl) dL_findTightArcs_50 (fun H locs hP hD hS => ?_)
        have hP : va_P D vwCl [(a0, .inr (1, [.ref a1, .ref a2, .ref a3, .int (ti + 1)])), (a1, .inl (τ 0, 24, .inl fd)), (a2, .inl (τ 0, 24, .inl fh)), (a3, .inl (τ 0, 24, .inl fp)), (n0, .inr (2, [.int (nI N), .int ar, .ref n1])), (n1, .inl (τ 0, 576, .inl len))] H := hP
        have hD : va_D A [(a0, .inr (1, [.ref a1, .ref a2, .ref a3, .int (ti + 1)])), (a1, .inl (τ 0, 24, .inl fd)), (a2, .inl (τ 0, 24, .inl fh)), (a3, .inl (τ 0, 24, .inl fp)), (n0, .inr (2, [.int (nI N), .int ar, .ref n1])), (n1, .inl (τ 0, 576, .inl len))] := hD
        refine lv_aload_n hx hb dL_findTightArcs_53 rfl (lv_at hl 1 rfl) ?_
        refine va_get (D := D) (ci := 1) (v := .ref a3) (C := RL) (T := TL) (N := 4) hx hb hts iL hown hK hP 0 rfl rfl 2 (by decide) (hts _ w_84) (fun _ h9 => h9) rfl dL_findTightArcs_54 ?_
        refine lv_iload_n hx hb dL_findTightArcs_57 rfl (lv_at hl 4 rfl) ?_
        refine ka_iald (k := k) hx hb hK hP 3 0 rfl rfl (by omega) (by omega) rfl dL_findTightArcs_58 ?_
        refine lv_ldc (v := (-1000000)) hx hb hown (hts _ w_78) dL_findTightArcs_59 ?_
        refine lv_icmp_ne (tgt := 88) hx hb dL_findTightArcs_61 (by decide) (fun c_61 => ?_) (fun c_61 => ?_)
        · skip
          refine lv_iinc (v := nI (k + 1)) (lv' := [(3, .int (nI (k + 1))), (4, .int (len (u * 24 + k))), (0, .ref a0), (1, .int (nI u)), (2, .ref n0)]) hx hb dL_findTightArcs_88 hl (k := 4) rfl (nI_1 _) (by decide) rfl (fun ls hl => ?_)
          refine lv_goto (tgt := 2) hx hb dL_findTightArcs_91 (by decide) ?_
          have e_ : (kTg len fd fh u) k (fp, ti) = (fp, ti + 1) := by unfold kTg; rw [kIf_f c_22]; rw [kIf_t c_40]; exact kIf_f (fun z => c_61 z.1)
          (try rw [e_] at ih)
          exact ih H locs ls hP hD hS (lv_sub hl [2, 3, 4, 0] rfl)
        · skip
          refine lv_aload_n hx hb dL_findTightArcs_64 rfl (lv_at hl 1 rfl) ?_
          refine va_get (D := D) (ci := 1) (v := .ref a2) (C := RL) (T := TL) (N := 4) hx hb hts iL hown hK hP 0 rfl rfl 1 (by decide) (hts _ w_82) (fun _ h9 => h9) rfl dL_findTightArcs_65 ?_
          refine lv_iload_n hx hb dL_findTightArcs_68 rfl (lv_at hl 2 rfl) ?_
          refine ka_iald (k := u) hx hb hK hP 2 0 rfl rfl (by omega) (by omega) rfl dL_findTightArcs_69 ?_
          refine lv_iconst (v := 1) hx hb dL_findTightArcs_70 (by decide) ?_
          refine lv_iadd hx hb dL_findTightArcs_71 ?_
          refine lv_aload_n hx hb dL_findTightArcs_72 rfl (lv_at hl 1 rfl) ?_
          refine va_get (D := D) (ci := 1) (v := .ref a2) (C := RL) (T := TL) (N := 4) hx hb hts iL hown hK hP 0 rfl rfl 1 (by decide) (hts _ w_82) (fun _ h9 => h9) rfl dL_findTightArcs_73 ?_
          refine lv_iload_n hx hb dL_findTightArcs_76 rfl (lv_at hl 4 rfl) ?_
          refine ka_iald (k := k) hx hb hK hP 2 0 rfl rfl (by omega) (by omega) rfl dL_findTightArcs_77 ?_
          refine lv_icmp_ne (tgt := 88) hx hb dL_findTightArcs_78 (by decide) (fun c_78 => ?_) (fun c_78 => ?_)
          · skip
            refine lv_iinc (v := nI (k + 1)) (lv' := [(3, .int (nI (k + 1))), (4, .int (len (u * 24 + k))), (0, .ref a0), (1, .int (nI u)), (2, .ref n0)]) hx hb dL_findTightArcs_88 hl (k := 4) rfl (nI_1 _) (by decide) rfl (fun ls hl => ?_)
            refine lv_goto (tgt := 2) hx hb dL_findTightArcs_91 (by decide) ?_
            have e_ : (kTg len fd fh u) k (fp, ti) = (fp, ti + 1) := by unfold kTg; rw [kIf_f c_22]; rw [kIf_t c_40]; exact kIf_f (fun z => c_78 z.2)
            (try rw [e_] at ih)
            exact ih H locs ls hP hD hS (lv_sub hl [2, 3, 4, 0] rfl)
          · skip
            refine lv_aload_n hx hb dL_findTightArcs_81 rfl (lv_at hl 1 rfl) ?_
            refine va_get (D := D) (ci := 1) (v := .ref a3) (C := RL) (T := TL) (N := 4) hx hb hts iL hown hK hP 0 rfl rfl 2 (by decide) (hts _ w_84) (fun _ h9 => h9) rfl dL_findTightArcs_82 ?_
            refine lv_iload_n hx hb dL_findTightArcs_85 rfl (lv_at hl 4 rfl) ?_
            refine lv_iload_n hx hb dL_findTightArcs_86 rfl (lv_at hl 2 rfl) ?_
            refine ka_iast (k := k) hx hb hK hP hD hS 3 0 rfl rfl (by omega) (by omega) rfl dL_findTightArcs_87 (fun H locs hP hD hS => ?_)
            have hP : va_P D vwCl [(a0, .inr (1, [.ref a1, .ref a2, .ref a3, .int (ti + 1)])), (a1, .inl (τ 0, 24, .inl fd)), (a2, .inl (τ 0, 24, .inl fh)), (a3, .inl (τ 0, 24, .inl (upd fp k (nI u)))), (n0, .inr (2, [.int (nI N), .int ar, .ref n1])), (n1, .inl (τ 0, 576, .inl len))] H := hP
            have hD : va_D A [(a0, .inr (1, [.ref a1, .ref a2, .ref a3, .int (ti + 1)])), (a1, .inl (τ 0, 24, .inl fd)), (a2, .inl (τ 0, 24, .inl fh)), (a3, .inl (τ 0, 24, .inl (upd fp k (nI u)))), (n0, .inr (2, [.int (nI N), .int ar, .ref n1])), (n1, .inl (τ 0, 576, .inl len))] := hD
            refine lv_iinc (v := nI (k + 1)) (lv' := [(3, .int (nI (k + 1))), (4, .int (len (u * 24 + k))), (0, .ref a0), (1, .int (nI u)), (2, .ref n0)]) hx hb dL_findTightArcs_88 hl (k := 4) rfl (nI_1 _) (by decide) rfl (fun ls hl => ?_)
            refine lv_goto (tgt := 2) hx hb dL_findTightArcs_91 (by decide) ?_
            have e_ : (kTg len fd fh u) k (fp, ti) = (upd fp k (nI u), ti + 1) := by unfold kTg; rw [kIf_f c_22]; rw [kIf_t c_40]; exact kIf_t ⟨c_61, c_78⟩
            (try rw [e_] at ih)
            exact ih H locs ls hP hD hS (lv_sub hl [2, 3, 4, 0] rfl)
set_option maxHeartbeats 4000000 in
set_option maxRecDepth 100000 in
theorem cl_tight (l : Launch) (D : va_G) (τ : Nat → ClassId) (a0 : Nat) (a1 : Nat) (a2 : Nat) (a3 : Nat) (n0 : Nat) (n1 : Nat) (N : Nat) (ar : Int32) (len : Nat → Int32) (u : Nat) (fd : Nat → Int32) (fh : Nat → Int32) (fp : Nat → Int32) (ti : Int32) (hu : u < 24) (hN : N ≤ 24) : kMv l D τ yL_findTightArcs (kWs yL_findTightArcs cL_findTightArcs 5 none) { frames := 1, cells := 0, slots := 0, locals := 22 } [.ref a0, .int (nI u), .ref n0] [(a0, .inr (1, [.ref a1, .ref a2, .ref a3, .int ti])), (a1, .inl (τ 0, 24, .inl fd)), (a2, .inl (τ 0, 24, .inl fh)), (a3, .inl (τ 0, 24, .inl fp)), (n0, .inr (2, [.int (nI N), .int ar, .ref n1])), (n1, .inl (τ 0, 576, .inl len))] [(a0, .inr (1, [.ref a1, .ref a2, .ref a3, .int ((kItr (kTg len fd fh u) N (fp, ti)).2)])), (a1, .inl (τ 0, 24, .inl fd)), (a2, .inl (τ 0, 24, .inl fh)), (a3, .inl (τ 0, 24, .inl ((kItr (kTg len fd fh u) N (fp, ti)).1))), (n0, .inr (2, [.int (nI N), .int ar, .ref n1])), (n1, .inl (τ 0, 576, .inl len))] := by
  intro sz
  refine Met.ofW (cc := cL_findTightArcs) (maxL := 5) (ret := none) (by decide) rfl ?_
  intro p e s m args below meth c s₁ B hml hv
  obtain ⟨rfl, hsz, hP, hK, hD0⟩ := hv
  have hx := B.exec
  have hb := B.bytes
  have hr := B.returns
  have hts := fun w (hw : w ∈ kTbl) => atoms_spec (ws := (kWs yL_findTightArcs cL_findTightArcs 5 none)) B.pre w (List.mem_cons_of_mem _ hw)
  have hown : s.vm.findClass RL = some m.cls := findClass_of_methodNamed B.named
  have hlocks := B.notSynchronized
  subst hsz
  have hD := hD0.self (sz := s.heap.size)
  generalize hAe : va_A [(a0, .inr (1, [.ref a1, .ref a2, .ref a3, .int ti])), (a1, .inl (τ 0, 24, .inl fd)), (a2, .inl (τ 0, 24, .inl fh)), (a3, .inl (τ 0, 24, .inl fp)), (n0, .inr (2, [.int (nI N), .int ar, .ref n1])), (n1, .inl (τ 0, 576, .inl len))] s.heap.size = A at hD ⊢
  have hA : ∀ q : Nat, s.heap.size ≤ q → A q := fun q h => by rw [← hAe]; exact Or.inr h
  have hS : va_S A s.heap s.heap [] := va_S.rf
  have hP : va_P D vwCl [(a0, .inr (1, [.ref a1, .ref a2, .ref a3, .int ti])), (a1, .inl (τ 0, 24, .inl fd)), (a2, .inl (τ 0, 24, .inl fh)), (a3, .inl (τ 0, 24, .inl fp)), (n0, .inr (2, [.int (nI N), .int ar, .ref n1])), (n1, .inl (τ 0, 576, .inl len))] s.heap := hP
  have hl := lv_entry ([.ref a0, .int (nI u), .ref n0]) (n := 5) (Nat.le_of_ble_eq_true rfl)
  rw [lg_entry_eq]
  generalize (lg_sl ([.ref a0, .int (nI u), .ref n0]) ++ List.replicate (5 - (lg_sl ([.ref a0, .int (nI u), .ref n0])).length) Slot.unset).toArray = ls at hl ⊢
  have hl : lv_has ls 5 [(0, .ref a0), (1, .int (nI u)), (2, .ref n0)] := hl
  skip
  refine lv_iconst (v := 0) hx hb dL_findTightArcs_0 (by decide) ?_
  refine lv_istore_n (lv' := [(3, .int 0), (0, .ref a0), (1, .int (nI u)), (2, .ref n0)]) hx hb dL_findTightArcs_1 rfl hl (by decide) rfl (fun ls hl => ?_)
  refine ll_tight hx hb hml hown hts hK hA a0 a1 a2 a3 n0 n1 N ar len u fd fh fp ti (by first | assumption | omega) (by first | assumption | omega) (fun H locs ls hP hD hS hl => ?_) N 0 (by omega) _ _ ls hP hD hS (lv_sub hl [1, 2, 3, 0] rfl)
  exact k_vret hx hb hr hlocks hK hS hP hD dL_findTightArcs_94
