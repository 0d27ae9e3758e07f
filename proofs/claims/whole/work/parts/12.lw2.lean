set_option maxHeartbeats 4000000 in
set_option maxRecDepth 100000 in
theorem la_fill {p : Program} {l : Launch} {e : Env} {s : State} {m : MethodId} {args : Array Value} {below : List Frame} {meth : Method} {c : Code} {Q : State → Prop} {D : va_G} {τ : Nat → ClassId} {A : Nat → Prop} (hx : p.tables.exec = Jvm.exec) (hb : c.code = cA_fill) (hml : c.maxLocals = 4) (hown : s.vm.findClass RA = some m.cls) (hts : ∀ w ∈ kTbl, w.before args s = true) (hK : va_K D vwCl (kTys τ) s) (hA : ∀ q : Nat, s.heap.size ≤ q → A q) (a : Nat) (nn : Nat) (x : Int32) (g : Nat → Int32) (hn : nn < 2 ^ 31)
    (kx : ∀ (H : Heap) (locs : List Loc) (ls : Array Slot), va_P D vwCl [(a, .inl (τ 0, nn, .inl (kItr (fun k f => upd f k x) nn (g))))] H → va_D A [(a, .inl (τ 0, nn, .inl (kItr (fun k f => upd f k x) nn (g))))] → va_S A s.heap H locs → lv_has ls 4 [(0, .ref a)] → W p l e (headSpec (kWs yA_fill cA_fill 4 none) { frames := 0, cells := 0, slots := 0, locals := 0 }).room s m args below meth c H locs 0 0 Q (F0 m 20 ls [])) :
    ∀ (n k : Nat), k + n = nn → ∀ (H : Heap) (locs : List Loc) (ls : Array Slot), va_P D vwCl [(a, .inl (τ 0, nn, .inl (kItr (fun k f => upd f k x) k (g))))] H → va_D A [(a, .inl (τ 0, nn, .inl (kItr (fun k f => upd f k x) k (g))))] → va_S A s.heap H locs → lv_has ls 4 [(0, .ref a), (1, .int x), (2, .int (nI k)), (3, .int (nI nn))] → W p l e (headSpec (kWs yA_fill cA_fill 4 none) { frames := 0, cells := 0, slots := 0, locals := 0 }).room s m args below meth c H locs 0 0 Q (F0 m 5 ls []) := by
  intro n
  induction n with
  | zero =>
    intro k hk H locs ls hP hD hS hl
    have hkN : nn = k := by omega
    subst hkN
    revert hP hD hl
    generalize hst : (kItr (fun k f => upd f k x) nn (g)) = f
    intro hP hD hl
    have hP : va_P D vwCl [(a, .inl (τ 0, nn, .inl f))] H := hP
    have hD : va_D A [(a, .inl (τ 0, nn, .inl f))] := hD
    have hl : lv_has ls 4 [(0, .ref a), (1, .int x), (2, .int (nI nn)), (3, .int (nI nn))] := hl
    refine lv_iload_n hx hb dA_fill_5 rfl (lv_at hl 2 rfl) ?_
    refine lv_iload_n hx hb dA_fill_6 rfl (lv_at hl 3 rfl) ?_
    refine lv_icmp_ge (tgt := 20) hx hb dA_fill_7 (by decide) (fun c_7 => ?_) (fun c_7 => absurd (nI_le (Nat.le_refl _) (by omega)) c_7)
    exact kx H locs ls (by (try rw [hst]); exact hP) (by (try rw [hst]); exact hD) hS (by (try rw [hst]); exact lv_sub hl [0] rfl)
  | succ n ih =>
    intro k hk H locs ls hP hD hS hl
    have hkN : k < nn := by omega
    have ih := ih (k + 1) (by omega)
    rw [kItr_s] at ih
    revert hP hD hl ih
    generalize hst : (kItr (fun k f => upd f k x) k (g)) = f
    intro hP hD hl ih
    have hP : va_P D vwCl [(a, .inl (τ 0, nn, .inl f))] H := hP
    have hD : va_D A [(a, .inl (τ 0, nn, .inl f))] := hD
    have hl : lv_has ls 4 [(0, .ref a), (1, .int x), (2, .int (nI k)), (3, .int (nI nn))] := hl
    refine lv_iload_n hx hb dA_fill_5 rfl (lv_at hl 2 rfl) ?_
    refine lv_iload_n hx hb dA_fill_6 rfl (lv_at hl 3 rfl) ?_
    refine lv_icmp_ge (tgt := 20) hx hb dA_fill_7 (by decide) (fun c_7 => absurd c_7 (nI_ge hkN (by omega))) (fun c_7 => ?_)
    refine lv_aload_n hx hb dA_fill_10 rfl (lv_at hl 0 rfl) ?_
    refine lv_iload_n hx hb dA_fill_11 rfl (lv_at hl 2 rfl) ?_
    refine lv_iload_n hx hb dA_fill_12 rfl (lv_at hl 1 rfl) ?_
    refine ka_iast (k := k) hx hb hK hP hD hS 0 0 rfl rfl (by omega) (by omega) rfl dA_fill_13 (fun H locs hP hD hS => ?_)
    have hP : va_P D vwCl [(a, .inl (τ 0, nn, .inl (upd f k x)))] H := hP
    have hD : va_D A [(a, .inl (τ 0, nn, .inl (upd f k x)))] := hD
    refine lv_iinc (v := nI (k + 1)) (lv' := [(2, .int (nI (k + 1))), (0, .ref a), (1, .int x), (3, .int (nI nn))]) hx hb dA_fill_14 hl (k := 2) rfl (nI_1 _) (by decide) rfl (fun ls hl => ?_)
    refine lv_goto (tgt := 5) hx hb dA_fill_17 (by decide) ?_
    have e_ : (fun k f => upd f k x) k (f) = (upd f k x) := by rfl
    (try rw [e_] at ih)
    exact ih H locs ls hP hD hS (lv_sub hl [1, 2, 0, 3] rfl)
set_option maxHeartbeats 4000000 in
set_option maxRecDepth 100000 in
theorem ca_fill (l : Launch) (D : va_G) (τ : Nat → ClassId) (a : Nat) (nn : Nat) (x : Int32) (g : Nat → Int32) (hn : nn < 2 ^ 31) : kMv l D τ yA_fill (kWs yA_fill cA_fill 4 none) { frames := 0, cells := 0, slots := 0, locals := 0 } [.ref a, .int x] [(a, .inl (τ 0, nn, .inl g))] [(a, .inl (τ 0, nn, .inl (fun _ => x)))] := by
  intro sz
  refine Met.ofW (cc := cA_fill) (maxL := 4) (ret := none) (by decide) rfl ?_
  intro p e s m args below meth c s₁ B hml hv
  obtain ⟨rfl, hsz, hP, hK, hD0⟩ := hv
  have hx := B.exec
  have hb := B.bytes
  have hr := B.returns
  have hts := fun w (hw : w ∈ kTbl) => atoms_spec (ws := (kWs yA_fill cA_fill 4 none)) B.pre w (List.mem_cons_of_mem _ hw)
  have hown : s.vm.findClass RA = some m.cls := findClass_of_methodNamed B.named
  have hlocks := B.notSynchronized
  subst hsz
  have hD := hD0.self (sz := s.heap.size)
  generalize hAe : va_A [(a, .inl (τ 0, nn, .inl g))] s.heap.size = A at hD ⊢
  have hA : ∀ q : Nat, s.heap.size ≤ q → A q := fun q h => by rw [← hAe]; exact Or.inr h
  have hS : va_S A s.heap s.heap [] := va_S.rf
  have hP : va_P D vwCl [(a, .inl (τ 0, nn, .inl g))] s.heap := hP
  have hl := lv_entry ([.ref a, .int x]) (n := 4) (Nat.le_of_ble_eq_true rfl)
  rw [lg_entry_eq]
  generalize (lg_sl ([.ref a, .int x]) ++ List.replicate (4 - (lg_sl ([.ref a, .int x])).length) Slot.unset).toArray = ls at hl ⊢
  have hl : lv_has ls 4 [(0, .ref a), (1, .int x)] := hl
  skip
  refine lv_iconst (v := 0) hx hb dA_fill_0 (by decide) ?_
  refine lv_istore_n (lv' := [(2, .int 0), (0, .ref a), (1, .int x)]) hx hb dA_fill_1 rfl hl (by decide) rfl (fun ls hl => ?_)
  refine lv_aload_n hx hb dA_fill_2 rfl (lv_at hl 1 rfl) ?_
  refine va_alen (v := nI nn) hx hb hK hP 0 0 rfl rfl rfl dA_fill_3 ?_
  refine lv_istore_n (lv' := [(3, .int (nI nn)), (2, .int 0), (0, .ref a), (1, .int x)]) hx hb dA_fill_4 rfl hl (by decide) rfl (fun ls hl => ?_)
  refine la_fill hx hb hml hown hts hK hA a nn x g (by first | assumption | omega) (fun H locs ls hP hD hS hl => ?_) nn 0 (by omega) _ _ ls hP hD hS (lv_sub hl [2, 3, 1, 0] rfl)
  exact k_vret hx hb hr hlocks hK hS (kP_re hP 0 rfl (kFill x g nn)) (hD.set (p := 0) rfl) dA_fill_20
set_option maxHeartbeats 4000000 in
set_option maxRecDepth 100000 in
theorem cl_clear (l : Launch) (D : va_G) (τ : Nat → ClassId) (a0 : Nat) (a1 : Nat) (a2 : Nat) (a3 : Nat) (fd : Nat → Int32) (fh : Nat → Int32) (fp : Nat → Int32) (ti : Int32)  : kMv l D τ yL_clear (kWs yL_clear cL_clear 1 none) { frames := 1, cells := 0, slots := 0, locals := 23 } [.ref a0] [(a0, .inr (1, [.ref a1, .ref a2, .ref a3, .int ti])), (a1, .inl (τ 0, 24, .inl fd)), (a2, .inl (τ 0, 24, .inl fh)), (a3, .inl (τ 0, 24, .inl fp))] [(a0, .inr (1, [.ref a1, .ref a2, .ref a3, .int 0])), (a1, .inl (τ 0, 24, .inl kNo)), (a2, .inl (τ 0, 24, .inl kNo)), (a3, .inl (τ 0, 24, .inl kNo))] := by
  intro sz
  refine Met.ofW (cc := cL_clear) (maxL := 1) (ret := none) (by decide) rfl ?_
  intro p e s m args below meth c s₁ B hml hv
  obtain ⟨rfl, hsz, hP, hK, hD0⟩ := hv
  have hx := B.exec
  have hb := B.bytes
  have hr := B.returns
  have hts := fun w (hw : w ∈ kTbl) => atoms_spec (ws := (kWs yL_clear cL_clear 1 none)) B.pre w (List.mem_cons_of_mem _ hw)
  have hown : s.vm.findClass RL = some m.cls := findClass_of_methodNamed B.named
  have hlocks := B.notSynchronized
  subst hsz
  have hD := hD0.self (sz := s.heap.size)
  generalize hAe : va_A [(a0, .inr (1, [.ref a1, .ref a2, .ref a3, .int ti])), (a1, .inl (τ 0, 24, .inl fd)), (a2, .inl (τ 0, 24, .inl fh)), (a3, .inl (τ 0, 24, .inl fp))] s.heap.size = A at hD ⊢
  have hA : ∀ q : Nat, s.heap.size ≤ q → A q := fun q h => by rw [← hAe]; exact Or.inr h
  have hS : va_S A s.heap s.heap [] := va_S.rf
  have hP : va_P D vwCl [(a0, .inr (1, [.ref a1, .ref a2, .ref a3, .int ti])), (a1, .inl (τ 0, 24, .inl fd)), (a2, .inl (τ 0, 24, .inl fh)), (a3, .inl (τ 0, 24, .inl fp))] s.heap := hP
  have hl := lv_entry ([.ref a0]) (n := 1) (Nat.le_of_ble_eq_true rfl)
  rw [lg_entry_eq]
  generalize (lg_sl ([.ref a0]) ++ List.replicate (1 - (lg_sl ([.ref a0])).length) Slot.unset).toArray = ls at hl ⊢
  have hl : lv_has ls 1 [(0, .ref a0)] := hl
  skip
  refine lv_aload_n hx hb dL_clear_0 rfl (lv_at hl 0 rfl) ?_
  refine va_get (D := D) (ci := 1) (v := .ref a1) (C := RL) (T := TL) (N := 4) hx hb hts iL hown hK hP 0 rfl rfl 0 (by decide) (hts _ w_80) (fun _ h9 => h9) rfl dL_clear_1 ?_
  refine lv_ldc (v := (-1000000)) hx hb hown (hts _ w_78) dL_clear_4 ?_
  refine kc_Sv (As := [.ref a1, .int (-1000000)]) (rest := []) (wr := [(a0, .inr (1, [.ref a1, .ref a2, .ref a3, .int ti])), (a2, .inl (τ 0, 24, .inl fh)), (a3, .inl (τ 0, 24, .inl fp))]) (W1 := [(a0, .inr (1, [.ref a1, .ref a2, .ref a3, .int ti])), (a1, .inl (τ 0, 24, .inl (fun _ => (-1000000)))), (a2, .inl (τ 0, 24, .inl fh)), (a3, .inl (τ 0, 24, .inl fp))]) ⟨hx, hb, hml, hown, hts⟩ (ca_fill l D τ a1 24 (-1000000) fd (by decide)) (kcwS hts qA_fill w_79 rfl rfl ⟨Nat.le_of_ble_eq_true rfl, Nat.le_of_ble_eq_true rfl⟩) hK hP hD hS hA [1] [0, 2, 3] [0, 3, 1, 2] rfl rfl (by decide) (by decide) (by decide) rfl (by decide) hl.1 rfl rfl (Nat.le_of_ble_eq_true rfl) ⟨Nat.zero_le _, Nat.zero_le _⟩ dL_clear_6 (fun H locs hP hD hS => ?_)
  refine lv_aload_n hx hb dL_clear_9 rfl (lv_at hl 0 rfl) ?_
  refine va_get (D := D) (ci := 1) (v := .ref a2) (C := RL) (T := TL) (N := 4) hx hb hts iL hown hK hP 0 rfl rfl 1 (by decide) (hts _ w_82) (fun _ h9 => h9) rfl dL_clear_10 ?_
  refine lv_ldc (v := (-1000000)) hx hb hown (hts _ w_78) dL_clear_13 ?_
  refine kc_Sv (As := [.ref a2, .int (-1000000)]) (rest := []) (wr := [(a0, .inr (1, [.ref a1, .ref a2, .ref a3, .int ti])), (a1, .inl (τ 0, 24, .inl (fun _ => (-1000000)))), (a3, .inl (τ 0, 24, .inl fp))]) (W1 := [(a0, .inr (1, [.ref a1, .ref a2, .ref a3, .int ti])), (a1, .inl (τ 0, 24, .inl (fun _ => (-1000000)))), (a2, .inl (τ 0, 24, .inl (fun _ => (-1000000)))), (a3, .inl (τ 0, 24, .inl fp))]) ⟨hx, hb, hml, hown, hts⟩ (ca_fill l D τ a2 24 (-1000000) fh (by decide)) (kcwS hts qA_fill w_79 rfl rfl ⟨Nat.le_of_ble_eq_true rfl, Nat.le_of_ble_eq_true rfl⟩) hK hP hD hS hA [2] [0, 1, 3] [0, 1, 3, 2] rfl rfl (by decide) (by decide) (by decide) rfl (by decide) hl.1 rfl rfl (Nat.le_of_ble_eq_true rfl) ⟨Nat.zero_le _, Nat.zero_le _⟩ dL_clear_15 (fun H locs hP hD hS => ?_)
  refine lv_aload_n hx hb dL_clear_18 rfl (lv_at hl 0 rfl) ?_
  refine va_get (D := D) (ci := 1) (v := .ref a3) (C := RL) (T := TL) (N := 4) hx hb hts iL hown hK hP 0 rfl rfl 2 (by decide) (hts _ w_84) (fun _ h9 => h9) rfl dL_clear_19 ?_
  refine lv_ldc (v := (-1000000)) hx hb hown (hts _ w_78) dL_clear_22 ?_
  refine kc_Sv (As := [.ref a3, .int (-1000000)]) (rest := []) (wr := [(a0, .inr (1, [.ref a1, .ref a2, .ref a3, .int ti])), (a1, .inl (τ 0, 24, .inl (fun _ => (-1000000)))), (a2, .inl (τ 0, 24, .inl (fun _ => (-1000000))))]) (W1 := [(a0, .inr (1, [.ref a1, .ref a2, .ref a3, .int ti])), (a1, .inl (τ 0, 24, .inl (fun _ => (-1000000)))), (a2, .inl (τ 0, 24, .inl (fun _ => (-1000000)))), (a3, .inl (τ 0, 24, .inl (fun _ => (-1000000))))]) ⟨hx, hb, hml, hown, hts⟩ (ca_fill l D τ a3 24 (-1000000) fp (by decide)) (kcwS hts qA_fill w_79 rfl rfl ⟨Nat.le_of_ble_eq_true rfl, Nat.le_of_ble_eq_true rfl⟩) hK hP hD hS hA [3] [0, 1, 2] [0, 1, 2, 3] rfl rfl (by decide) (by decide) (by decide) rfl (by decide) hl.1 rfl rfl (Nat.le_of_ble_eq_true rfl) ⟨Nat.zero_le _, Nat.zero_le _⟩ dL_clear_24 (fun H locs hP hD hS => ?_)
  refine lv_aload_n hx hb dL_clear_27 rfl (lv_at hl 0 rfl) ?_
  refine lv_iconst (v := 0) hx hb dL_clear_28 (by decide) ?_
  refine va_put (D := D) (ci := 1) (v := .int 0) (ty := .int) (C := RL) (T := TL) (N := 4) hx hb hts iL tyL tyL_ok nmL hown hK hP hD hS 0 rfl rfl 3 (by decide) (hts _ w_86) (fun _ h9 => h9) rfl (by decide +kernel) rfl rfl (Nat.le_of_ble_eq_true rfl) dL_clear_29 (fun H locs hP hD hS => ?_)
  have hP : va_P D vwCl [(a0, .inr (1, [.ref a1, .ref a2, .ref a3, .int 0])), (a1, .inl (τ 0, 24, .inl (fun _ => (-1000000)))), (a2, .inl (τ 0, 24, .inl (fun _ => (-1000000)))), (a3, .inl (τ 0, 24, .inl (fun _ => (-1000000))))] H := hP
  have hD : va_D A [(a0, .inr (1, [.ref a1, .ref a2, .ref a3, .int 0])), (a1, .inl (τ 0, 24, .inl (fun _ => (-1000000)))), (a2, .inl (τ 0, 24, .inl (fun _ => (-1000000)))), (a3, .inl (τ 0, 24, .inl (fun _ => (-1000000))))] := hD
  exact k_vret hx hb hr hlocks hK hS hP hD dL_clear_32
set_option maxHeartbeats 4000000 in
set_option maxRecDepth 100000 in
theorem ll_inner {p : Program} {l : Launch} {e : Env} {s : State} {m : MethodId} {args : Array Value} {below : List Frame} {meth : Method} {c : Code} {Q : State → Prop} {D : va_G} {τ : Nat → ClassId} {A : Nat → Prop} (hx : p.tables.exec = Jvm.exec) (hb : c.code = cL_settle) (hml : c.maxLocals = 7) (hown : s.vm.findClass RL = some m.cls) (hts : ∀ w ∈ kTbl, w.before args s = true) (hK : va_K D vwCl (kTys τ) s) (hA : ∀ q : Nat, s.heap.size ≤ q → A q) (a0 : Nat) (a1 : Nat) (a2 : Nat) (a3 : Nat) (n0 : Nat) (n1 : Nat) (N : Nat) (ar : Int32) (len : Nat → Int32) (rd : Nat) (go : Int32) (gd : Nat → Int32) (gh : Nat → Int32) (fp : Nat → Int32) (ti : Int32) (hN : N ≤ 24)
    (kx : ∀ (H : Heap) (locs : List Loc) (ls : Array Slot), va_P D vwCl [(a0, .inr (1, [.ref a1, .ref a2, .ref a3, .int ti])), (a1, .inl (τ 0, 24, .inl ((kItr (kRnd1 N len go) N (gd, gh, 0)).1))), (a2, .inl (τ 0, 24, .inl ((kItr (kRnd1 N len go) N (gd, gh, 0)).2.1))), (a3, .inl (τ 0, 24, .inl fp)), (n0, .inr (2, [.int (nI N), .int ar, .ref n1])), (n1, .inl (τ 0, 576, .inl len))] H → va_D A [(a0, .inr (1, [.ref a1, .ref a2, .ref a3, .int ti])), (a1, .inl (τ 0, 24, .inl ((kItr (kRnd1 N len go) N (gd, gh, 0)).1))), (a2, .inl (τ 0, 24, .inl ((kItr (kRnd1 N len go) N (gd, gh, 0)).2.1))), (a3, .inl (τ 0, 24, .inl fp)), (n0, .inr (2, [.int (nI N), .int ar, .ref n1])), (n1, .inl (τ 0, 576, .inl len))] → va_S A s.heap H locs → lv_has ls 7 [(0, .ref a0), (1, .ref n0), (3, .int ((kItr (kRnd1 N len go) N (gd, gh, 0)).2.2)), (4, .int (nI rd))] → W p l e (headSpec (kWs yL_settle cL_settle 7 none) { frames := 2, cells := 0, slots := 0, locals := 48 }).room s m args below meth c H locs 0 0 Q (F0 m 90 ls [])) :
    ∀ (n k : Nat), k + n = N → ∀ (H : Heap) (locs : List Loc) (ls : Array Slot), va_P D vwCl [(a0, .inr (1, [.ref a1, .ref a2, .ref a3, .int ti])), (a1, .inl (τ 0, 24, .inl ((kItr (kRnd1 N len go) k (gd, gh, 0)).1))), (a2, .inl (τ 0, 24, .inl ((kItr (kRnd1 N len go) k (gd, gh, 0)).2.1))), (a3, .inl (τ 0, 24, .inl fp)), (n0, .inr (2, [.int (nI N), .int ar, .ref n1])), (n1, .inl (τ 0, 576, .inl len))] H → va_D A [(a0, .inr (1, [.ref a1, .ref a2, .ref a3, .int ti])), (a1, .inl (τ 0, 24, .inl ((kItr (kRnd1 N len go) k (gd, gh, 0)).1))), (a2, .inl (τ 0, 24, .inl ((kItr (kRnd1 N len go) k (gd, gh, 0)).2.1))), (a3, .inl (τ 0, 24, .inl fp)), (n0, .inr (2, [.int (nI N), .int ar, .ref n1])), (n1, .inl (τ 0, 576, .inl len))] → va_S A s.heap H locs → lv_has ls 7 [(0, .ref a0), (1, .ref n0), (3, .int ((kItr (kRnd1 N len go) k (gd, gh, 0)).2.2)), (4, .int (nI rd)), (5, .int go), (6, .int (nI k))] → W p l e (headSpec (kWs yL_settle cL_settle 7 none) { frames := 2, cells := 0, slots := 0, locals := 48 }).room s m args below meth c H locs 0 0 Q (F0 m 55 ls []) := by
  intro n
  induction n with
  | zero =>
    intro k hk H locs ls hP hD hS hl
    have hkN : N = k := by omega
    subst hkN
    revert hP hD hl
    generalize hst : (kItr (kRnd1 N len go) N (gd, gh, 0)) = st
    intro hP hD hl
    obtain ⟨fd, fh, imp⟩ := st
    have hP : va_P D vwCl [(a0, .inr (1, [.ref a1, .ref a2, .ref a3, .int ti])), (a1, .inl (τ 0, 24, .inl fd)), (a2, .inl (τ 0, 24, .inl fh)), (a3, .inl (τ 0, 24, .inl fp)), (n0, .inr (2, [.int (nI N), .int ar, .ref n1])), (n1, .inl (τ 0, 576, .inl len))] H := hP
    have hD : va_D A [(a0, .inr (1, [.ref a1, .ref a2, .ref a3, .int ti])), (a1, .inl (τ 0, 24, .inl fd)), (a2, .inl (τ 0, 24, .inl fh)), (a3, .inl (τ 0, 24, .inl fp)), (n0, .inr (2, [.int (nI N), .int ar, .ref n1])), (n1, .inl (τ 0, 576, .inl len))] := hD
    have hl : lv_has ls 7 [(0, .ref a0), (1, .ref n0), (3, .int imp), (4, .int (nI rd)), (5, .int go), (6, .int (nI N))] := hl
    refine lv_iload hx hb dL_settle_55 (lv_at hl 5 rfl) ?_
    refine lv_aload_n hx hb dL_settle_57 rfl (lv_at hl 1 rfl) ?_
    refine va_get (D := D) (ci := 2) (v := .int (nI N)) (C := RN) (T := TN) (N := 3) hx hb hts iN hown hK hP 4 rfl rfl 0 (by decide) (hts _ w_28) (fun _ h9 => h9) rfl dL_settle_58 ?_
    refine lv_icmp_ge (tgt := 90) hx hb dL_settle_61 (by decide) (fun c_61 => ?_) (fun c_61 => absurd (nI_le (Nat.le_refl _) (by omega)) c_61)
    exact kx H locs ls (by (try rw [hst]); exact hP) (by (try rw [hst]); exact hD) hS (by (try rw [hst]); exact lv_sub hl [0, 1, 2, 3] rfl)
  | succ n ih =>
    intro k hk H locs ls hP hD hS hl
    have hkN : k < N := by omega
    have ih := ih (k + 1) (by omega)
    rw [kItr_s] at ih
    revert hP hD hl ih
    generalize hst : (kItr (kRnd1 N len go) k (gd, gh, 0)) = st
    intro hP hD hl ih
    obtain ⟨fd, fh, imp⟩ := st
    have hP : va_P D vwCl [(a0, .inr (1, [.ref a1, .ref a2, .ref a3, .int ti])), (a1, .inl (τ 0, 24, .inl fd)), (a2, .inl (τ 0, 24, .inl fh)), (a3, .inl (τ 0, 24, .inl fp)), (n0, .inr (2, [.int (nI N), .int ar, .ref n1])), (n1, .inl (τ 0, 576, .inl len))] H := hP
    have hD : va_D A [(a0, .inr (1, [.ref a1, .ref a2, .ref a3, .int ti])), (a1, .inl (τ 0, 24, .inl fd)), (a2, .inl (τ 0, 24, .inl fh)), (a3, .inl (τ 0, 24, .inl fp)), (n0, .inr (2, [.int (nI N), .int ar, .ref n1])), (n1, .inl (τ 0, 576, .inl len))] := hD
    have hl : lv_has ls 7 [(0, .ref a0), (1, .ref n0), (3, .int imp), (4, .int (nI rd)), (5, .int go), (6, .int (nI k))] := hl
    refine lv_iload hx hb dL_settle_55 (lv_at hl 5 rfl) ?_
    refine lv_aload_n hx hb dL_settle_57 rfl (lv_at hl 1 rfl) ?_
    refine va_get (D := D) (ci := 2) (v := .int (nI N)) (C := RN) (T := TN) (N := 3) hx hb hts iN hown hK hP 4 rfl rfl 0 (by decide) (hts _ w_28) (fun _ h9 => h9) rfl dL_settle_58 ?_
    refine lv_icmp_ge (tgt := 90) hx hb dL_settle_61 (by decide) (fun c_61 => absurd c_61 (nI_ge hkN (by omega))) (fun c_61 => ?_)
    refine lv_iload hx hb dL_settle_64 (lv_at hl 4 rfl) ?_
    refine lv_iload hx hb dL_settle_66 (lv_at hl 5 rfl) ?_
    refine lv_ishr hx hb dL_settle_68 ?_
    refine lv_iconst (v := 1) hx hb dL_settle_69 (by decide) ?_
    refine lv_iand hx hb dL_settle_70 ?_
    refine lv_if_eq (tgt := 84) hx hb dL_settle_71 (by decide) (fun c_71 => ?_) (fun c_71 => ?_)
    · skip
      refine lv_iinc (v := nI (k + 1)) (lv' := [(6, .int (nI (k + 1))), (0, .ref a0), (1, .ref n0), (3, .int imp), (4, .int (nI rd)), (5, .int go)]) hx hb dL_settle_84 hl (k := 5) rfl (nI_1 _) (by decide) rfl (fun ls hl => ?_)
      refine lv_goto (tgt := 55) hx hb dL_settle_87 (by decide) ?_
      have e_ : (kRnd1 N len go) k (fd, fh, imp) = (fd, fh, imp) := by unfold kRnd1; exact kIf_t c_71
      (try rw [e_] at ih)
      exact ih H locs ls hP hD hS (lv_sub hl [1, 2, 3, 4, 5, 0] rfl)
    · skip
      refine lv_iload_n hx hb dL_settle_74 rfl (lv_at hl 2 rfl) ?_
      refine lv_aload_n hx hb dL_settle_75 rfl (lv_at hl 0 rfl) ?_
      refine lv_iload hx hb dL_settle_76 (lv_at hl 5 rfl) ?_
      refine lv_aload_n hx hb dL_settle_78 rfl (lv_at hl 1 rfl) ?_
      refine kc_Vi (As := [.int (nI k), .ref n0]) (rest := [.int imp]) (wr := []) (W1 := [(a0, .inr (1, [.ref a1, .ref a2, .ref a3, .int ti])), (a1, .inl (τ 0, 24, .inl ((kFolA N len k fd fh).1))), (a2, .inl (τ 0, 24, .inl ((kFolA N len k fd fh).2.1))), (a3, .inl (τ 0, 24, .inl fp)), (n0, .inr (2, [.int (nI N), .int ar, .ref n1])), (n1, .inl (τ 0, 576, .inl len))]) ⟨hx, hb, hml, hown, hts⟩ (cl_follow l D τ a0 a1 a2 a3 n0 n1 N ar len k fd fh fp ti (by first | assumption | omega) (by first | assumption | omega)) (kcwV hts qL_followArcs w_176 rfl rfl ⟨Nat.le_of_ble_eq_true rfl, Nat.le_of_ble_eq_true rfl⟩) hK hP hD hS hA [0, 1, 2, 3, 4, 5] [] [0, 1, 2, 3, 4, 5] rfl rfl (by decide) (by decide) (by decide) rfl rfl rfl (by decide) hl.1 rfl rfl (Nat.le_of_ble_eq_true rfl) ⟨Nat.zero_le _, Nat.zero_le _⟩ dL_settle_79 (fun H locs hP hD hS => ?_)
      refine lv_ior hx hb dL_settle_82 ?_
      refine lv_istore_n (lv' := [(3, .int (imp ||| ((kFolA N len k fd fh).2.2))), (0, .ref a0), (1, .ref n0), (4, .int (nI rd)), (5, .int go), (6, .int (nI k))]) hx hb dL_settle_83 rfl hl (by decide) rfl (fun ls hl => ?_)
      refine lv_iinc (v := nI (k + 1)) (lv' := [(6, .int (nI (k + 1))), (3, .int (imp ||| ((kFolA N len k fd fh).2.2))), (0, .ref a0), (1, .ref n0), (4, .int (nI rd)), (5, .int go)]) hx hb dL_settle_84 hl (k := 5) rfl (nI_1 _) (by decide) rfl (fun ls hl => ?_)
      refine lv_goto (tgt := 55) hx hb dL_settle_87 (by decide) ?_
      have e_ : (kRnd1 N len go) k (fd, fh, imp) = ((kFolA N len k fd fh).1, (kFolA N len k fd fh).2.1, imp ||| ((kFolA N len k fd fh).2.2)) := by unfold kRnd1; exact kIf_f c_71
      (try rw [e_] at ih)
      exact ih H locs ls hP hD hS (lv_sub hl [2, 3, 1, 4, 5, 0] rfl)
set_option maxHeartbeats 4000000 in
set_option maxRecDepth 100000 in
theorem ll_outer {p : Program} {l : Launch} {e : Env} {s : State} {m : MethodId} {args : Array Value} {below : List Frame} {meth : Method} {c : Code} {Q : State → Prop} {D : va_G} {τ : Nat → ClassId} {A : Nat → Prop} (hx : p.tables.exec = Jvm.exec) (hb : c.code = cL_settle) (hml : c.maxLocals = 7) (hown : s.vm.findClass RL = some m.cls) (hts : ∀ w ∈ kTbl, w.before args s = true) (hK : va_K D vwCl (kTys τ) s) (hA : ∀ q : Nat, s.heap.size ≤ q → A q) (a0 : Nat) (a1 : Nat) (a2 : Nat) (a3 : Nat) (n0 : Nat) (n1 : Nat) (N : Nat) (ar : Int32) (len : Nat → Int32) (gd : Nat → Int32) (gh : Nat → Int32) (fp : Nat → Int32) (ti : Int32) (ig : Int32) (hN : N ≤ 24)
    (kx : ∀ (H : Heap) (locs : List Loc) (ls : Array Slot), va_P D vwCl [(a0, .inr (1, [.ref a1, .ref a2, .ref a3, .int ti])), (a1, .inl (τ 0, 24, .inl ((kItr (kRnd N len) N (gd, gh, ig)).1))), (a2, .inl (τ 0, 24, .inl ((kItr (kRnd N len) N (gd, gh, ig)).2.1))), (a3, .inl (τ 0, 24, .inl fp)), (n0, .inr (2, [.int (nI N), .int ar, .ref n1])), (n1, .inl (τ 0, 576, .inl len))] H → va_D A [(a0, .inr (1, [.ref a1, .ref a2, .ref a3, .int ti])), (a1, .inl (τ 0, 24, .inl ((kItr (kRnd N len) N (gd, gh, ig)).1))), (a2, .inl (τ 0, 24, .inl ((kItr (kRnd N len) N (gd, gh, ig)).2.1))), (a3, .inl (τ 0, 24, .inl fp)), (n0, .inr (2, [.int (nI N), .int ar, .ref n1])), (n1, .inl (τ 0, 576, .inl len))] → va_S A s.heap H locs → lv_has ls 7 [(0, .ref a0), (1, .ref n0)] → W p l e (headSpec (kWs yL_settle cL_settle 7 none) { frames := 2, cells := 0, slots := 0, locals := 48 }).room s m args below meth c H locs 0 0 Q (F0 m 96 ls [])) :
    ∀ (n k : Nat), k + n = N → ∀ (H : Heap) (locs : List Loc) (ls : Array Slot), va_P D vwCl [(a0, .inr (1, [.ref a1, .ref a2, .ref a3, .int ti])), (a1, .inl (τ 0, 24, .inl ((kItr (kRnd N len) k (gd, gh, ig)).1))), (a2, .inl (τ 0, 24, .inl ((kItr (kRnd N len) k (gd, gh, ig)).2.1))), (a3, .inl (τ 0, 24, .inl fp)), (n0, .inr (2, [.int (nI N), .int ar, .ref n1])), (n1, .inl (τ 0, 576, .inl len))] H → va_D A [(a0, .inr (1, [.ref a1, .ref a2, .ref a3, .int ti])), (a1, .inl (τ 0, 24, .inl ((kItr (kRnd N len) k (gd, gh, ig)).1))), (a2, .inl (τ 0, 24, .inl ((kItr (kRnd N len) k (gd, gh, ig)).2.1))), (a3, .inl (τ 0, 24, .inl fp)), (n0, .inr (2, [.int (nI N), .int ar, .ref n1])), (n1, .inl (τ 0, 576, .inl len))] → va_S A s.heap H locs → lv_has ls 7 [(0, .ref a0), (1, .ref n0), (3, .int ((kItr (kRnd N len) k (gd, gh, ig)).2.2)), (4, .int (nI k))] → W p l e (headSpec (kWs yL_settle cL_settle 7 none) { frames := 2, cells := 0, slots := 0, locals := 48 }).room s m args below meth c H locs 0 0 Q (F0 m 34 ls []) := by
  intro n
  induction n with
  | zero =>
    intro k hk H locs ls hP hD hS hl
    have hkN : N = k := by omega
    subst hkN
    revert hP hD hl
    generalize hst : (kItr (kRnd N len) N (gd, gh, ig)) = st
    intro hP hD hl
    obtain ⟨fd, fh, imp⟩ := st
    have hP : va_P D vwCl [(a0, .inr (1, [.ref a1, .ref a2, .ref a3, .int ti])), (a1, .inl (τ 0, 24, .inl fd)), (a2, .inl (τ 0, 24, .inl fh)), (a3, .inl (τ 0, 24, .inl fp)), (n0, .inr (2, [.int (nI N), .int ar, .ref n1])), (n1, .inl (τ 0, 576, .inl len))] H := hP
    have hD : va_D A [(a0, .inr (1, [.ref a1, .ref a2, .ref a3, .int ti])), (a1, .inl (τ 0, 24, .inl fd)), (a2, .inl (τ 0, 24, .inl fh)), (a3, .inl (τ 0, 24, .inl fp)), (n0, .inr (2, [.int (nI N), .int ar, .ref n1])), (n1, .inl (τ 0, 576, .inl len))] := hD
    have hl : lv_has ls 7 [(0, .ref a0), (1, .ref n0), (3, .int imp), (4, .int (nI N))] := hl
    refine lv_iload hx hb dL_settle_34 (lv_at hl 3 rfl) ?_
    refine lv_aload_n hx hb dL_settle_36 rfl (lv_at hl 1 rfl) ?_
    refine va_get (D := D) (ci := 2) (v := .int (nI N)) (C := RN) (T := TN) (N := 3) hx hb hts iN hown hK hP 4 rfl rfl 0 (by decide) (hts _ w_28) (fun _ h9 => h9) rfl dL_settle_37 ?_
    refine lv_icmp_ge (tgt := 96) hx hb dL_settle_40 (by decide) (fun c_40 => ?_) (fun c_40 => absurd (nI_le (Nat.le_refl _) (by omega)) c_40)
    exact kx H locs ls (by (try rw [hst]); exact hP) (by (try rw [hst]); exact hD) hS (by (try rw [hst]); exact lv_sub hl [0, 1] rfl)
  | succ n ih =>
    intro k hk H locs ls hP hD hS hl
    have hkN : k < N := by omega
    have ih := ih (k + 1) (by omega)
    rw [kItr_s] at ih
    revert hP hD hl ih
    generalize hst : (kItr (kRnd N len) k (gd, gh, ig)) = st
    intro hP hD hl ih
    obtain ⟨fd, fh, imp⟩ := st
    have hP : va_P D vwCl [(a0, .inr (1, [.ref a1, .ref a2, .ref a3, .int ti])), (a1, .inl (τ 0, 24, .inl fd)), (a2, .inl (τ 0, 24, .inl fh)), (a3, .inl (τ 0, 24, .inl fp)), (n0, .inr (2, [.int (nI N), .int ar, .ref n1])), (n1, .inl (τ 0, 576, .inl len))] H := hP
    have hD : va_D A [(a0, .inr (1, [.ref a1, .ref a2, .ref a3, .int ti])), (a1, .inl (τ 0, 24, .inl fd)), (a2, .inl (τ 0, 24, .inl fh)), (a3, .inl (τ 0, 24, .inl fp)), (n0, .inr (2, [.int (nI N), .int ar, .ref n1])), (n1, .inl (τ 0, 576, .inl len))] := hD
    have hl : lv_has ls 7 [(0, .ref a0), (1, .ref n0), (3, .int imp), (4, .int (nI k))] := hl
    refine lv_iload hx hb dL_settle_34 (lv_at hl 3 rfl) ?_
    refine lv_aload_n hx hb dL_settle_36 rfl (lv_at hl 1 rfl) ?_
    refine va_get (D := D) (ci := 2) (v := .int (nI N)) (C := RN) (T := TN) (N := 3) hx hb hts iN hown hK hP 4 rfl rfl 0 (by decide) (hts _ w_28) (fun _ h9 => h9) rfl dL_settle_37 ?_
    refine lv_icmp_ge (tgt := 96) hx hb dL_settle_40 (by decide) (fun c_40 => absurd c_40 (nI_ge hkN (by omega))) (fun c_40 => ?_)
    refine lv_iload_n hx hb dL_settle_43 rfl (lv_at hl 2 rfl) ?_
    refine lv_if_eq (tgt := 96) hx hb dL_settle_44 (by decide) (fun c_44 => ?_) (fun c_44 => ?_)
    · skip
      have e_ := kRnd_stop hst c_44 (n + 1)
      rw [hk] at e_
      exact kx H locs ls (by rw [e_]; exact hP) (by rw [e_]; exact hD) hS (lv_sub hl [0, 1] rfl)
    · skip
      refine lv_iload_n hx hb dL_settle_47 rfl (lv_at hl 2 rfl) ?_
      refine lv_istore (lv' := [(5, .int imp), (0, .ref a0), (1, .ref n0), (3, .int imp), (4, .int (nI k))]) hx hb dL_settle_48 hl (by decide) rfl (fun ls hl => ?_)
      refine lv_iconst (v := 0) hx hb dL_settle_50 (by decide) ?_
      refine lv_istore_n (lv' := [(3, .int 0), (5, .int imp), (0, .ref a0), (1, .ref n0), (4, .int (nI k))]) hx hb dL_settle_51 rfl hl (by decide) rfl (fun ls hl => ?_)
      refine lv_iconst (v := 0) hx hb dL_settle_52 (by decide) ?_
      refine lv_istore (lv' := [(6, .int 0), (3, .int 0), (5, .int imp), (0, .ref a0), (1, .ref n0), (4, .int (nI k))]) hx hb dL_settle_53 hl (by decide) rfl (fun ls hl => ?_)
      refine ll_inner hx hb hml hown hts hK hA a0 a1 a2 a3 n0 n1 N ar len k imp fd fh fp ti (by first | assumption | omega) (fun H locs ls hP hD hS hl => ?_) N 0 (by omega) _ _ ls hP hD hS (lv_sub hl [3, 4, 1, 5, 2, 0] rfl)
      refine lv_iinc (v := nI (k + 1)) (lv' := [(4, .int (nI (k + 1))), (0, .ref a0), (1, .ref n0), (3, .int ((kItr (kRnd1 N len imp) (N) (fd, fh, 0)).2.2))]) hx hb dL_settle_90 hl (k := 3) rfl (nI_1 _) (by decide) rfl (fun ls hl => ?_)
      refine lv_goto (tgt := 34) hx hb dL_settle_93 (by decide) ?_
      have e_ : (kRnd N len) k (fd, fh, imp) = ((kItr (kRnd1 N len imp) (N) (fd, fh, 0)).1, (kItr (kRnd1 N len imp) (N) (fd, fh, 0)).2.1, (kItr (kRnd1 N len imp) (N) (fd, fh, 0)).2.2) := by unfold kRnd; exact kIf_f c_44
      (try rw [e_] at ih)
      exact ih H locs ls hP hD hS (lv_sub hl [1, 2, 3, 0] rfl)
set_option maxHeartbeats 4000000 in
set_option maxRecDepth 100000 in
theorem ll_tights {p : Program} {l : Launch} {e : Env} {s : State} {m : MethodId} {args : Array Value} {below : List Frame} {meth : Method} {c : Code} {Q : State → Prop} {D : va_G} {τ : Nat → ClassId} {A : Nat → Prop} (hx : p.tables.exec = Jvm.exec) (hb : c.code = cL_settle) (hml : c.maxLocals = 7) (hown : s.vm.findClass RL = some m.cls) (hts : ∀ w ∈ kTbl, w.before args s = true) (hK : va_K D vwCl (kTys τ) s) (hA : ∀ q : Nat, s.heap.size ≤ q → A q) (a0 : Nat) (a1 : Nat) (a2 : Nat) (a3 : Nat) (n0 : Nat) (n1 : Nat) (N : Nat) (ar : Int32) (len : Nat → Int32) (fd : Nat → Int32) (fh : Nat → Int32) (gp : Nat → Int32) (gt : Int32) (hN : N ≤ 24)
    (kx : ∀ (H : Heap) (locs : List Loc) (ls : Array Slot), va_P D vwCl [(a0, .inr (1, [.ref a1, .ref a2, .ref a3, .int ((kItr (kTgU N len fd fh) N (gp, gt)).2)])), (a1, .inl (τ 0, 24, .inl fd)), (a2, .inl (τ 0, 24, .inl fh)), (a3, .inl (τ 0, 24, .inl ((kItr (kTgU N len fd fh) N (gp, gt)).1))), (n0, .inr (2, [.int (nI N), .int ar, .ref n1])), (n1, .inl (τ 0, 576, .inl len))] H → va_D A [(a0, .inr (1, [.ref a1, .ref a2, .ref a3, .int ((kItr (kTgU N len fd fh) N (gp, gt)).2)])), (a1, .inl (τ 0, 24, .inl fd)), (a2, .inl (τ 0, 24, .inl fh)), (a3, .inl (τ 0, 24, .inl ((kItr (kTgU N len fd fh) N (gp, gt)).1))), (n0, .inr (2, [.int (nI N), .int ar, .ref n1])), (n1, .inl (τ 0, 576, .inl len))] → va_S A s.heap H locs → lv_has ls 7 [(0, .ref a0)] → W p l e (headSpec (kWs yL_settle cL_settle 7 none) { frames := 2, cells := 0, slots := 0, locals := 48 }).room s m args below meth c H locs 0 0 Q (F0 m 130 ls [])) :
    ∀ (n k : Nat), k + n = N → ∀ (H : Heap) (locs : List Loc) (ls : Array Slot), va_P D vwCl [(a0, .inr (1, [.ref a1, .ref a2, .ref a3, .int ((kItr (kTgU N len fd fh) k (gp, gt)).2)])), (a1, .inl (τ 0, 24, .inl fd)), (a2, .inl (τ 0, 24, .inl fh)), (a3, .inl (τ 0, 24, .inl ((kItr (kTgU N len fd fh) k (gp, gt)).1))), (n0, .inr (2, [.int (nI N), .int ar, .ref n1])), (n1, .inl (τ 0, 576, .inl len))] H → va_D A [(a0, .inr (1, [.ref a1, .ref a2, .ref a3, .int ((kItr (kTgU N len fd fh) k (gp, gt)).2)])), (a1, .inl (τ 0, 24, .inl fd)), (a2, .inl (τ 0, 24, .inl fh)), (a3, .inl (τ 0, 24, .inl ((kItr (kTgU N len fd fh) k (gp, gt)).1))), (n0, .inr (2, [.int (nI N), .int ar, .ref n1])), (n1, .inl (τ 0, 576, .inl len))] → va_S A s.heap H locs → lv_has ls 7 [(0, .ref a0), (1, .ref n0), (4, .int (nI k))] → W p l e (headSpec (kWs yL_settle cL_settle 7 none) { frames := 2, cells := 0, slots := 0, locals := 48 }).room s m args below meth c H locs 0 0 Q (F0 m 99 ls []) := by
  intro n
  induction n with
  | zero =>
    intro k hk H locs ls hP hD hS hl
    have hkN : N = k := by omega
    subst hkN
    revert hP hD hl
    generalize hst : (kItr (kTgU N len fd fh) N (gp, gt)) = st
    intro hP hD hl
    obtain ⟨fp, ti⟩ := st
    have hP : va_P D vwCl [(a0, .inr (1, [.ref a1, .ref a2, .ref a3, .int ti])), (a1, .inl (τ 0, 24, .inl fd)), (a2, .inl (τ 0, 24, .inl fh)), (a3, .inl (τ 0, 24, .inl fp)), (n0, .inr (2, [.int (nI N), .int ar, .ref n1])), (n1, .inl (τ 0, 576, .inl len))] H := hP
    have hD : va_D A [(a0, .inr (1, [.ref a1, .ref a2, .ref a3, .int ti])), (a1, .inl (τ 0, 24, .inl fd)), (a2, .inl (τ 0, 24, .inl fh)), (a3, .inl (τ 0, 24, .inl fp)), (n0, .inr (2, [.int (nI N), .int ar, .ref n1])), (n1, .inl (τ 0, 576, .inl len))] := hD
    have hl : lv_has ls 7 [(0, .ref a0), (1, .ref n0), (4, .int (nI N))] := hl
    refine lv_iload hx hb dL_settle_99 (lv_at hl 2 rfl) ?_
    refine lv_aload_n hx hb dL_settle_101 rfl (lv_at hl 1 rfl) ?_
    refine va_get (D := D) (ci := 2) (v := .int (nI N)) (C := RN) (T := TN) (N := 3) hx hb hts iN hown hK hP 4 rfl rfl 0 (by decide) (hts _ w_28) (fun _ h9 => h9) rfl dL_settle_102 ?_
    refine lv_icmp_ge (tgt := 130) hx hb dL_settle_105 (by decide) (fun c_105 => ?_) (fun c_105 => absurd (nI_le (Nat.le_refl _) (by omega)) c_105)
    exact kx H locs ls (by (try rw [hst]); exact hP) (by (try rw [hst]); exact hD) hS (by (try rw [hst]); exact lv_sub hl [0] rfl)
  | succ n ih =>
    intro k hk H locs ls hP hD hS hl
    have hkN : k < N := by omega
    have ih := ih (k + 1) (by omega)
    rw [kItr_s] at ih
    revert hP hD hl ih
    generalize hst : (kItr (kTgU N len fd fh) k (gp, gt)) = st
    intro hP hD hl ih
    obtain ⟨fp, ti⟩ := st
    have hP : va_P D vwCl [(a0, .inr (1, [.ref a1, .ref a2, .ref a3, .int ti])), (a1, .inl (τ 0, 24, .inl fd)), (a2, .inl (τ 0, 24, .inl fh)), (a3, .inl (τ 0, 24, .inl fp)), (n0, .inr (2, [.int (nI N), .int ar, .ref n1])), (n1, .inl (τ 0, 576, .inl len))] H := hP
    have hD : va_D A [(a0, .inr (1, [.ref a1, .ref a2, .ref a3, .int ti])), (a1, .inl (τ 0, 24, .inl fd)), (a2, .inl (τ 0, 24, .inl fh)), (a3, .inl (τ 0, 24, .inl fp)), (n0, .inr (2, [.int (nI N), .int ar, .ref n1])), (n1, .inl (τ 0, 576, .inl len))] := hD
    have hl : lv_has ls 7 [(0, .ref a0), (1, .ref n0), (4, .int (nI k))] := hl
    refine lv_iload hx hb dL_settle_99 (lv_at hl 2 rfl) ?_
    refine lv_aload_n hx hb dL_settle_101 rfl (lv_at hl 1 rfl) ?_
    refine va_get (D := D) (ci := 2) (v := .int (nI N)) (C := RN) (T := TN) (N := 3) hx hb hts iN hown hK hP 4 rfl rfl 0 (by decide) (hts _ w_28) (fun _ h9 => h9) rfl dL_settle_102 ?_
    refine lv_icmp_ge (tgt := 130) hx hb dL_settle_105 (by decide) (fun c_105 => absurd c_105 (nI_ge hkN (by omega))) (fun c_105 => ?_)
    refine lv_aload_n hx hb dL_settle_108 rfl (lv_at hl 0 rfl) ?_
    refine lv_iload hx hb dL_settle_109 (lv_at hl 2 rfl) ?_
    refine kc_Vi (As := [.int (nI k)]) (rest := []) (wr := [(n0, .inr (2, [.int (nI N), .int ar, .ref n1])), (n1, .inl (τ 0, 576, .inl len))]) (W1 := [(a0, .inr (1, [.ref a1, .ref a2, .ref a3, .int ti])), (a1, .inl (τ 0, 24, .inl fd)), (a2, .inl (τ 0, 24, .inl fh)), (a3, .inl (τ 0, 24, .inl fp)), (n0, .inr (2, [.int (nI N), .int ar, .ref n1])), (n1, .inl (τ 0, 576, .inl len))]) ⟨hx, hb, hml, hown, hts⟩ (cl_reaches l D τ a0 a1 a2 a3 k fd fh fp ti (by first | assumption | omega)) (kcwV hts qL_reaches w_188 rfl rfl ⟨Nat.le_of_ble_eq_true rfl, Nat.le_of_ble_eq_true rfl⟩) hK hP hD hS hA [0, 1, 2, 3] [4, 5] [2, 3, 4, 5, 0, 1] rfl rfl (by decide) (by decide) (by decide) rfl rfl rfl (by decide) hl.1 rfl rfl (Nat.le_of_ble_eq_true rfl) ⟨Nat.zero_le _, Nat.zero_le _⟩ dL_settle_111 (fun H locs hP hD hS => ?_)
    refine lv_if_eq (tgt := 124) hx hb dL_settle_114 (by decide) (fun c_114 => ?_) (fun c_114 => ?_)
    · skip
      have c_114 := kB_0.mp c_114
      refine lv_iinc (v := nI (k + 1)) (lv' := [(4, .int (nI (k + 1))), (0, .ref a0), (1, .ref n0)]) hx hb dL_settle_124 hl (k := 2) rfl (nI_1 _) (by decide) rfl (fun ls hl => ?_)
      refine lv_goto (tgt := 99) hx hb dL_settle_127 (by decide) ?_
      have e_ : (kTgU N len fd fh) k (fp, ti) = (fp, ti) := by unfold kTgU; exact kIf_t (Classical.not_not.mp c_114)
      (try rw [e_] at ih)
      exact ih H locs ls hP hD hS (lv_sub hl [1, 2, 0] rfl)
    · skip
      have c_114 := kB_1.mp c_114
      refine lv_aload_n hx hb dL_settle_117 rfl (lv_at hl 0 rfl) ?_
      refine lv_iload hx hb dL_settle_118 (lv_at hl 2 rfl) ?_
      refine lv_aload_n hx hb dL_settle_120 rfl (lv_at hl 1 rfl) ?_
      refine kc_Vv (As := [.int (nI k), .ref n0]) (rest := []) (wr := []) (W1 := [(a0, .inr (1, [.ref a1, .ref a2, .ref a3, .int ((kItr (kTg len fd fh k) N (fp, ti)).2)])), (a1, .inl (τ 0, 24, .inl fd)), (a2, .inl (τ 0, 24, .inl fh)), (a3, .inl (τ 0, 24, .inl ((kItr (kTg len fd fh k) N (fp, ti)).1))), (n0, .inr (2, [.int (nI N), .int ar, .ref n1])), (n1, .inl (τ 0, 576, .inl len))]) ⟨hx, hb, hml, hown, hts⟩ (cl_tight l D τ a0 a1 a2 a3 n0 n1 N ar len k fd fh fp ti (by first | assumption | omega) (by first | assumption | omega)) (kcwV hts qL_findTightArcs w_192 rfl rfl ⟨Nat.le_of_ble_eq_true rfl, Nat.le_of_ble_eq_true rfl⟩) hK hP hD hS hA [0, 1, 2, 3, 4, 5] [] [0, 1, 2, 3, 4, 5] rfl rfl (by decide) (by decide) (by decide) rfl rfl rfl (by decide) hl.1 rfl rfl (Nat.le_of_ble_eq_true rfl) ⟨Nat.zero_le _, Nat.zero_le _⟩ dL_settle_121 (fun H locs hP hD hS => ?_)
      refine lv_iinc (v := nI (k + 1)) (lv' := [(4, .int (nI (k + 1))), (0, .ref a0), (1, .ref n0)]) hx hb dL_settle_124 hl (k := 2) rfl (nI_1 _) (by decide) rfl (fun ls hl => ?_)
      refine lv_goto (tgt := 99) hx hb dL_settle_127 (by decide) ?_
      have e_ : (kTgU N len fd fh) k (fp, ti) = ((kItr (kTg len fd fh k) N (fp, ti)).1, (kItr (kTg len fd fh k) N (fp, ti)).2) := by unfold kTgU; exact kIf_f c_114
      (try rw [e_] at ih)
      exact ih H locs ls hP hD hS (lv_sub hl [1, 2, 0] rfl)
set_option maxHeartbeats 4000000 in
set_option maxRecDepth 100000 in
theorem cl_settle (l : Launch) (D : va_G) (τ : Nat → ClassId) (a0 : Nat) (a1 : Nat) (a2 : Nat) (a3 : Nat) (n0 : Nat) (n1 : Nat) (N : Nat) (ar : Int32) (len : Nat → Int32) (x : Int32) (fd : Nat → Int32) (fh : Nat → Int32) (fp : Nat → Int32) (ti : Int32) (hN : N ≤ 24) : kMv l D τ yL_settle (kWs yL_settle cL_settle 7 none) { frames := 2, cells := 0, slots := 0, locals := 48 } [.ref a0, .ref n0, .int x] [(a0, .inr (1, [.ref a1, .ref a2, .ref a3, .int ti])), (a1, .inl (τ 0, 24, .inl fd)), (a2, .inl (τ 0, 24, .inl fh)), (a3, .inl (τ 0, 24, .inl fp)), (n0, .inr (2, [.int (nI N), .int ar, .ref n1])), (n1, .inl (τ 0, 576, .inl len))] [(a0, .inr (1, [.ref a1, .ref a2, .ref a3, .int ((kSettle N len x).2.2.2)])), (a1, .inl (τ 0, 24, .inl ((kSettle N len x).1))), (a2, .inl (τ 0, 24, .inl ((kSettle N len x).2.1))), (a3, .inl (τ 0, 24, .inl ((kSettle N len x).2.2.1))), (n0, .inr (2, [.int (nI N), .int ar, .ref n1])), (n1, .inl (τ 0, 576, .inl len))] := by
  intro sz
  refine Met.ofW (cc := cL_settle) (maxL := 7) (ret := none) (by decide) rfl ?_
  intro p e s m args below meth c s₁ B hml hv
  obtain ⟨rfl, hsz, hP, hK, hD0⟩ := hv
  have hx := B.exec
  have hb := B.bytes
  have hr := B.returns
  have hts := fun w (hw : w ∈ kTbl) => atoms_spec (ws := (kWs yL_settle cL_settle 7 none)) B.pre w (List.mem_cons_of_mem _ hw)
  have hown : s.vm.findClass RL = some m.cls := findClass_of_methodNamed B.named
  have hlocks := B.notSynchronized
  subst hsz
  have hD := hD0.self (sz := s.heap.size)
  generalize hAe : va_A [(a0, .inr (1, [.ref a1, .ref a2, .ref a3, .int ti])), (a1, .inl (τ 0, 24, .inl fd)), (a2, .inl (τ 0, 24, .inl fh)), (a3, .inl (τ 0, 24, .inl fp)), (n0, .inr (2, [.int (nI N), .int ar, .ref n1])), (n1, .inl (τ 0, 576, .inl len))] s.heap.size = A at hD ⊢
  have hA : ∀ q : Nat, s.heap.size ≤ q → A q := fun q h => by rw [← hAe]; exact Or.inr h
  have hS : va_S A s.heap s.heap [] := va_S.rf
  have hP : va_P D vwCl [(a0, .inr (1, [.ref a1, .ref a2, .ref a3, .int ti])), (a1, .inl (τ 0, 24, .inl fd)), (a2, .inl (τ 0, 24, .inl fh)), (a3, .inl (τ 0, 24, .inl fp)), (n0, .inr (2, [.int (nI N), .int ar, .ref n1])), (n1, .inl (τ 0, 576, .inl len))] s.heap := hP
  have hl := lv_entry ([.ref a0, .ref n0, .int x]) (n := 7) (Nat.le_of_ble_eq_true rfl)
  rw [lg_entry_eq]
  generalize (lg_sl ([.ref a0, .ref n0, .int x]) ++ List.replicate (7 - (lg_sl ([.ref a0, .ref n0, .int x])).length) Slot.unset).toArray = ls at hl ⊢
  have hl : lv_has ls 7 [(0, .ref a0), (1, .ref n0), (2, .int x)] := hl
  skip
  refine lv_aload_n hx hb dL_settle_0 rfl (lv_at hl 0 rfl) ?_
  refine kc_Vv (As := []) (rest := []) (wr := [(n0, .inr (2, [.int (nI N), .int ar, .ref n1])), (n1, .inl (τ 0, 576, .inl len))]) (W1 := [(a0, .inr (1, [.ref a1, .ref a2, .ref a3, .int 0])), (a1, .inl (τ 0, 24, .inl kNo)), (a2, .inl (τ 0, 24, .inl kNo)), (a3, .inl (τ 0, 24, .inl kNo)), (n0, .inr (2, [.int (nI N), .int ar, .ref n1])), (n1, .inl (τ 0, 576, .inl len))]) ⟨hx, hb, hml, hown, hts⟩ (cl_clear l D τ a0 a1 a2 a3 fd fh fp ti ) (kcwV hts qL_clear w_74 rfl rfl ⟨Nat.le_of_ble_eq_true rfl, Nat.le_of_ble_eq_true rfl⟩) hK hP hD hS hA [0, 1, 2, 3] [4, 5] [2, 3, 4, 5, 0, 1] rfl rfl (by decide) (by decide) (by decide) rfl rfl rfl (by decide) hl.1 rfl rfl (Nat.le_of_ble_eq_true rfl) ⟨Nat.zero_le _, Nat.zero_le _⟩ dL_settle_1 (fun H locs hP hD hS => ?_)
  refine lv_aload_n hx hb dL_settle_4 rfl (lv_at hl 1 rfl) ?_
  refine lv_iload_n hx hb dL_settle_5 rfl (lv_at hl 2 rfl) ?_
  refine kc_Vi (As := [.int x]) (rest := []) (wr := [(a0, .inr (1, [.ref a1, .ref a2, .ref a3, .int 0])), (a1, .inl (τ 0, 24, .inl kNo)), (a2, .inl (τ 0, 24, .inl kNo)), (a3, .inl (τ 0, 24, .inl kNo)), (n1, .inl (τ 0, 576, .inl len))]) (W1 := [(a0, .inr (1, [.ref a1, .ref a2, .ref a3, .int 0])), (a1, .inl (τ 0, 24, .inl kNo)), (a2, .inl (τ 0, 24, .inl kNo)), (a3, .inl (τ 0, 24, .inl kNo)), (n0, .inr (2, [.int (nI N), .int ar, .ref n1])), (n1, .inl (τ 0, 576, .inl len))]) ⟨hx, hb, hml, hown, hts⟩ (cn_isNode l D τ n0 n1 N ar x ) (kcwV hts qN_isNode w_175 rfl rfl ⟨Nat.le_of_ble_eq_true rfl, Nat.le_of_ble_eq_true rfl⟩) hK hP hD hS hA [4] [0, 1, 2, 3, 5] [0, 1, 2, 3, 5, 4] rfl rfl (by decide) (by decide) (by decide) rfl rfl rfl (by decide) hl.1 rfl rfl (Nat.le_of_ble_eq_true rfl) ⟨Nat.zero_le _, Nat.zero_le _⟩ dL_settle_6 (fun H locs hP hD hS => ?_)
  refine lv_if_ne (tgt := 13) hx hb dL_settle_9 (by decide) (fun c_9 => ?_) (fun c_9 => ?_)
  · skip
    have c_9 := kB_1.mp c_9
    obtain ⟨j, hj, rfl⟩ := kNode_n hN c_9
    refine lv_aload_n hx hb dL_settle_13 rfl (lv_at hl 0 rfl) ?_
    refine va_get (D := D) (ci := 1) (v := .ref a1) (C := RL) (T := TL) (N := 4) hx hb hts iL hown hK hP 0 rfl rfl 0 (by decide) (hts _ w_80) (fun _ h9 => h9) rfl dL_settle_14 ?_
    refine lv_iload_n hx hb dL_settle_17 rfl (lv_at hl 2 rfl) ?_
    refine lv_iconst (v := 0) hx hb dL_settle_18 (by decide) ?_
    refine ka_iast (k := j) hx hb hK hP hD hS 1 0 rfl rfl (by omega) (by omega) rfl dL_settle_19 (fun H locs hP hD hS => ?_)
    have hP : va_P D vwCl [(a0, .inr (1, [.ref a1, .ref a2, .ref a3, .int 0])), (a1, .inl (τ 0, 24, .inl (upd kNo j 0))), (a2, .inl (τ 0, 24, .inl kNo)), (a3, .inl (τ 0, 24, .inl kNo)), (n0, .inr (2, [.int (nI N), .int ar, .ref n1])), (n1, .inl (τ 0, 576, .inl len))] H := hP
    have hD : va_D A [(a0, .inr (1, [.ref a1, .ref a2, .ref a3, .int 0])), (a1, .inl (τ 0, 24, .inl (upd kNo j 0))), (a2, .inl (τ 0, 24, .inl kNo)), (a3, .inl (τ 0, 24, .inl kNo)), (n0, .inr (2, [.int (nI N), .int ar, .ref n1])), (n1, .inl (τ 0, 576, .inl len))] := hD
    refine lv_aload_n hx hb dL_settle_20 rfl (lv_at hl 0 rfl) ?_
    refine va_get (D := D) (ci := 1) (v := .ref a2) (C := RL) (T := TL) (N := 4) hx hb hts iL hown hK hP 0 rfl rfl 1 (by decide) (hts _ w_82) (fun _ h9 => h9) rfl dL_settle_21 ?_
    refine lv_iload_n hx hb dL_settle_24 rfl (lv_at hl 2 rfl) ?_
    refine lv_iconst (v := 0) hx hb dL_settle_25 (by decide) ?_
    refine ka_iast (k := j) hx hb hK hP hD hS 2 0 rfl rfl (by omega) (by omega) rfl dL_settle_26 (fun H locs hP hD hS => ?_)
    have hP : va_P D vwCl [(a0, .inr (1, [.ref a1, .ref a2, .ref a3, .int 0])), (a1, .inl (τ 0, 24, .inl (upd kNo j 0))), (a2, .inl (τ 0, 24, .inl (upd kNo j 0))), (a3, .inl (τ 0, 24, .inl kNo)), (n0, .inr (2, [.int (nI N), .int ar, .ref n1])), (n1, .inl (τ 0, 576, .inl len))] H := hP
    have hD : va_D A [(a0, .inr (1, [.ref a1, .ref a2, .ref a3, .int 0])), (a1, .inl (τ 0, 24, .inl (upd kNo j 0))), (a2, .inl (τ 0, 24, .inl (upd kNo j 0))), (a3, .inl (τ 0, 24, .inl kNo)), (n0, .inr (2, [.int (nI N), .int ar, .ref n1])), (n1, .inl (τ 0, 576, .inl len))] := hD
    refine lv_iconst (v := 1) hx hb dL_settle_27 (by decide) ?_
    refine lv_iload_n hx hb dL_settle_28 rfl (lv_at hl 2 rfl) ?_
    refine lv_ishl hx hb dL_settle_29 ?_
    refine lv_istore_n (lv' := [(3, .int (1 <<< ((nI j) &&& 31))), (0, .ref a0), (1, .ref n0), (2, .int (nI j))]) hx hb dL_settle_30 rfl hl (by decide) rfl (fun ls hl => ?_)
    refine lv_iconst (v := 0) hx hb dL_settle_31 (by decide) ?_
    refine lv_istore (lv' := [(4, .int 0), (3, .int (1 <<< ((nI j) &&& 31))), (0, .ref a0), (1, .ref n0), (2, .int (nI j))]) hx hb dL_settle_32 hl (by decide) rfl (fun ls hl => ?_)
    refine ll_outer hx hb hml hown hts hK hA a0 a1 a2 a3 n0 n1 N ar len (upd kNo j 0) (upd kNo j 0) kNo 0 (1 <<< ((nI j) &&& 31)) (by first | assumption | omega) (fun H locs ls hP hD hS hl => ?_) N 0 (by omega) _ _ ls hP hD hS (lv_sub hl [2, 3, 1, 0] rfl)
    refine lv_iconst (v := 0) hx hb dL_settle_96 (by decide) ?_
    refine lv_istore (lv' := [(4, .int 0), (0, .ref a0), (1, .ref n0)]) hx hb dL_settle_97 hl (by decide) rfl (fun ls hl => ?_)
    refine ll_tights hx hb hml hown hts hK hA a0 a1 a2 a3 n0 n1 N ar len ((kItr (kRnd N len) (N) ((upd kNo j 0), (upd kNo j 0), (1 <<< ((nI j) &&& 31)))).1) ((kItr (kRnd N len) (N) ((upd kNo j 0), (upd kNo j 0), (1 <<< ((nI j) &&& 31)))).2.1) kNo 0 (by first | assumption | omega) (fun H locs ls hP hD hS hl => ?_) N 0 (by omega) _ _ ls hP hD hS (lv_sub hl [1, 2, 0] rfl)
    have e_ : kSettle N len (nI j) = kSet N len j := by unfold kSettle; rw [kIf_t c_9, nI_clamp (by omega)]
    exact k_vret hx hb hr hlocks hK hS (by rw [e_]; exact hP) (by rw [e_]; exact hD) dL_settle_130
  · skip
    have c_9 := kB_0.mp c_9
    have e_ : kSettle N len x = (kNo, kNo, kNo, 0) := by unfold kSettle; exact kIf_f c_9
    exact k_vret hx hb hr hlocks hK hS (by rw [e_]; exact hP) (by rw [e_]; exact hD) dL_settle_12
set_option maxHeartbeats 4000000 in
set_option maxRecDepth 100000 in
theorem ll_back {p : Program} {l : Launch} {e : Env} {s : State} {m : MethodId} {args : Array Value} {below : List Frame} {meth : Method} {c : Code} {Q : State → Prop} {D : va_G} {τ : Nat → ClassId} {A : Nat → Prop} (hx : p.tables.exec = Jvm.exec) (hb : c.code = cL_nodeOnWay) (hml : c.maxLocals = 5) (hown : s.vm.findClass RL = some m.cls) (hts : ∀ w ∈ kTbl, w.before args s = true) (hK : va_K D vwCl (kTys τ) s) (hA : ∀ q : Nat, s.heap.size ≤ q → A q) (a0 : Nat) (a1 : Nat) (a2 : Nat) (a3 : Nat) (fd : Nat → Int32) (fh : Nat → Int32) (fp : Nat → Int32) (ti : Int32) (v : Nat) (i : Nat) (K : Nat) (hv : v < 24) (hi : i ≤ K) (hK24 : K < 24) (hp : kPar fp)
    (kx : ∀ (H : Heap) (locs : List Loc) (ls : Array Slot), va_P D vwCl [(a0, .inr (1, [.ref a1, .ref a2, .ref a3, .int ti])), (a1, .inl (τ 0, 24, .inl fd)), (a2, .inl (τ 0, 24, .inl fh)), (a3, .inl (τ 0, 24, .inl fp))] H → va_D A [(a0, .inr (1, [.ref a1, .ref a2, .ref a3, .int ti])), (a1, .inl (τ 0, 24, .inl fd)), (a2, .inl (τ 0, 24, .inl fh)), (a3, .inl (τ 0, 24, .inl fp))] → va_S A s.heap H locs → lv_has ls 5 [(3, .int (kItr (kBack fp) (K - i) (nI v)))] → W p l e (headSpec (kWs yL_nodeOnWay cL_nodeOnWay 5 (some .int)) { frames := 0, cells := 0, slots := 0, locals := 0 }).room s m args below meth c H locs 0 0 Q (F0 m 33 ls [])) :
    ∀ (n k : Nat), k + n = K - i → ∀ (H : Heap) (locs : List Loc) (ls : Array Slot), va_P D vwCl [(a0, .inr (1, [.ref a1, .ref a2, .ref a3, .int ti])), (a1, .inl (τ 0, 24, .inl fd)), (a2, .inl (τ 0, 24, .inl fh)), (a3, .inl (τ 0, 24, .inl fp))] H → va_D A [(a0, .inr (1, [.ref a1, .ref a2, .ref a3, .int ti])), (a1, .inl (τ 0, 24, .inl fd)), (a2, .inl (τ 0, 24, .inl fh)), (a3, .inl (τ 0, 24, .inl fp))] → va_S A s.heap H locs → lv_has ls 5 [(0, .ref a0), (2, .int (nI i)), (3, .int (kItr (kBack fp) k (nI v))), (4, .int (nI (K - k)))] → W p l e (headSpec (kWs yL_nodeOnWay cL_nodeOnWay 5 (some .int)) { frames := 0, cells := 0, slots := 0, locals := 0 }).room s m args below meth c H locs 0 0 Q (F0 m 10 ls []) := by
  intro n
  induction n with
  | zero =>
    intro k hk H locs ls hP hD hS hl
    have hkN : K - i = k := by omega
    subst hkN
    revert hP hD hl
    generalize hst : (kItr (kBack fp) (K - i) (nI v)) = x
    intro hP hD hl
    have hP : va_P D vwCl [(a0, .inr (1, [.ref a1, .ref a2, .ref a3, .int ti])), (a1, .inl (τ 0, 24, .inl fd)), (a2, .inl (τ 0, 24, .inl fh)), (a3, .inl (τ 0, 24, .inl fp))] H := hP
    have hD : va_D A [(a0, .inr (1, [.ref a1, .ref a2, .ref a3, .int ti])), (a1, .inl (τ 0, 24, .inl fd)), (a2, .inl (τ 0, 24, .inl fh)), (a3, .inl (τ 0, 24, .inl fp))] := hD
    have hl : lv_has ls 5 [(0, .ref a0), (2, .int (nI i)), (3, .int x), (4, .int (nI (K - (K - i))))] := hl
    refine lv_iload hx hb dL_nodeOnWay_10 (lv_at hl 3 rfl) ?_
    refine lv_iload_n hx hb dL_nodeOnWay_12 rfl (lv_at hl 1 rfl) ?_
    refine lv_icmp_le (tgt := 33) hx hb dL_nodeOnWay_13 (by decide) (fun c_13 => ?_) (fun c_13 => absurd (nI_le (by omega) (by omega)) c_13)
    exact kx H locs ls (by (try rw [hst]); exact hP) (by (try rw [hst]); exact hD) hS (by (try rw [hst]); exact lv_sub hl [2] rfl)
  | succ n ih =>
    intro k hk H locs ls hP hD hS hl
    have hkN : k < K - i := by omega
    have ih := ih (k + 1) (by omega)
    rw [kItr_s] at ih
    revert hP hD hl ih
    generalize hst : (kItr (kBack fp) k (nI v)) = x
    intro hP hD hl ih
    have hP : va_P D vwCl [(a0, .inr (1, [.ref a1, .ref a2, .ref a3, .int ti])), (a1, .inl (τ 0, 24, .inl fd)), (a2, .inl (τ 0, 24, .inl fh)), (a3, .inl (τ 0, 24, .inl fp))] H := hP
    have hD : va_D A [(a0, .inr (1, [.ref a1, .ref a2, .ref a3, .int ti])), (a1, .inl (τ 0, 24, .inl fd)), (a2, .inl (τ 0, 24, .inl fh)), (a3, .inl (τ 0, 24, .inl fp))] := hD
    have hl : lv_has ls 5 [(0, .ref a0), (2, .int (nI i)), (3, .int x), (4, .int (nI (K - k)))] := hl
    refine lv_iload hx hb dL_nodeOnWay_10 (lv_at hl 3 rfl) ?_
    refine lv_iload_n hx hb dL_nodeOnWay_12 rfl (lv_at hl 1 rfl) ?_
    refine lv_icmp_le (tgt := 33) hx hb dL_nodeOnWay_13 (by decide) (fun c_13 => absurd c_13 (nI_ge (by omega) (by omega))) (fun c_13 => ?_)
    refine lv_iload_n hx hb dL_nodeOnWay_16 rfl (lv_at hl 2 rfl) ?_
    refine lv_if_lt (tgt := 33) hx hb dL_nodeOnWay_17 (by decide) (fun c_17 => ?_) (fun c_17 => ?_)
    · skip
      have e_ := kBack_stop hst c_17 (n + 1)
      rw [hk] at e_
      exact kx H locs ls hP hD hS (by rw [e_]; exact lv_sub hl [2] rfl)
    · skip
      obtain ⟨u, hu, rfl⟩ : ∃ u, u < 24 ∧ x = nI u := by
        rcases kBack_in hp hv k with g | g
        · rw [hst] at g; exact absurd g c_17
        · rw [hst] at g; exact g
      refine lv_aload_n hx hb dL_nodeOnWay_20 rfl (lv_at hl 0 rfl) ?_
      refine va_get (D := D) (ci := 1) (v := .ref a3) (C := RL) (T := TL) (N := 4) hx hb hts iL hown hK hP 0 rfl rfl 2 (by decide) (hts _ w_84) (fun _ h9 => h9) rfl dL_nodeOnWay_21 ?_
      refine lv_iload_n hx hb dL_nodeOnWay_24 rfl (lv_at hl 2 rfl) ?_
      refine ka_iald (k := u) hx hb hK hP 3 0 rfl rfl (by omega) (by omega) rfl dL_nodeOnWay_25 ?_
      refine lv_istore_n (lv' := [(3, .int (fp u)), (0, .ref a0), (2, .int (nI i)), (4, .int (nI (K - k)))]) hx hb dL_nodeOnWay_26 rfl hl (by decide) rfl (fun ls hl => ?_)
      refine lv_iinc (v := nI (K - (k + 1))) (lv' := [(4, .int (nI (K - (k + 1)))), (3, .int (fp u)), (0, .ref a0), (2, .int (nI i))]) hx hb dL_nodeOnWay_27 hl (k := 3) rfl (by rw [show K - (k + 1) = K - k - 1 by omega]; exact sb_m1 (by omega)) (by decide) rfl (fun ls hl => ?_)
      refine lv_goto (tgt := 10) hx hb dL_nodeOnWay_30 (by decide) ?_
      have e_ : (kBack fp) k (nI u) = (fp u) := by unfold kBack; rw [kIf_f c_17, nI_clamp (by omega)]
      (try rw [e_] at ih)
      exact ih H locs ls hP hD hS (lv_sub hl [2, 3, 1, 0] rfl)
set_option maxHeartbeats 4000000 in
set_option maxRecDepth 100000 in
theorem cl_node (l : Launch) (D : va_G) (τ : Nat → ClassId) (a0 : Nat) (a1 : Nat) (a2 : Nat) (a3 : Nat) (fd : Nat → Int32) (fh : Nat → Int32) (fp : Nat → Int32) (ti : Int32) (v : Nat) (i : Nat) (K : Nat) (hv : v < 24) (hi : i ≤ K) (hK24 : K < 24) (hp : kPar fp) (hKv : fh v = nI K) : kMi l D τ yL_nodeOnWay (kWs yL_nodeOnWay cL_nodeOnWay 5 (some .int)) { frames := 0, cells := 0, slots := 0, locals := 0 } [.ref a0, .int (nI v), .int (nI i)] [(a0, .inr (1, [.ref a1, .ref a2, .ref a3, .int ti])), (a1, .inl (τ 0, 24, .inl fd)), (a2, .inl (τ 0, 24, .inl fh)), (a3, .inl (τ 0, 24, .inl fp))] (kItr (kBack fp) (K - i) (nI v)) [(a0, .inr (1, [.ref a1, .ref a2, .ref a3, .int ti])), (a1, .inl (τ 0, 24, .inl fd)), (a2, .inl (τ 0, 24, .inl fh)), (a3, .inl (τ 0, 24, .inl fp))] := by
  intro sz
  refine Met.ofW (cc := cL_nodeOnWay) (maxL := 5) (ret := (some .int)) (by decide) rfl ?_
  intro p e s m args below meth c s₁ B hml hv
  obtain ⟨rfl, hsz, hP, hK, hD0⟩ := hv
  have hx := B.exec
  have hb := B.bytes
  have hr := B.returns
  have hts := fun w (hw : w ∈ kTbl) => atoms_spec (ws := (kWs yL_nodeOnWay cL_nodeOnWay 5 (some .int))) B.pre w (List.mem_cons_of_mem _ hw)
  have hown : s.vm.findClass RL = some m.cls := findClass_of_methodNamed B.named
  have hlocks := B.notSynchronized
  subst hsz
  have hD := hD0.self (sz := s.heap.size)
  generalize hAe : va_A [(a0, .inr (1, [.ref a1, .ref a2, .ref a3, .int ti])), (a1, .inl (τ 0, 24, .inl fd)), (a2, .inl (τ 0, 24, .inl fh)), (a3, .inl (τ 0, 24, .inl fp))] s.heap.size = A at hD ⊢
  have hA : ∀ q : Nat, s.heap.size ≤ q → A q := fun q h => by rw [← hAe]; exact Or.inr h
  have hS : va_S A s.heap s.heap [] := va_S.rf
  have hP : va_P D vwCl [(a0, .inr (1, [.ref a1, .ref a2, .ref a3, .int ti])), (a1, .inl (τ 0, 24, .inl fd)), (a2, .inl (τ 0, 24, .inl fh)), (a3, .inl (τ 0, 24, .inl fp))] s.heap := hP
  have hl := lv_entry ([.ref a0, .int (nI v), .int (nI i)]) (n := 5) (Nat.le_of_ble_eq_true rfl)
  rw [lg_entry_eq]
  generalize (lg_sl ([.ref a0, .int (nI v), .int (nI i)]) ++ List.replicate (5 - (lg_sl ([.ref a0, .int (nI v), .int (nI i)])).length) Slot.unset).toArray = ls at hl ⊢
  have hl : lv_has ls 5 [(0, .ref a0), (1, .int (nI v)), (2, .int (nI i))] := hl
  skip
  refine lv_iload_n hx hb dL_nodeOnWay_0 rfl (lv_at hl 1 rfl) ?_
  refine lv_istore_n (lv' := [(3, .int (nI v)), (0, .ref a0), (1, .int (nI v)), (2, .int (nI i))]) hx hb dL_nodeOnWay_1 rfl hl (by decide) rfl (fun ls hl => ?_)
  refine lv_aload_n hx hb dL_nodeOnWay_2 rfl (lv_at hl 1 rfl) ?_
  refine va_get (D := D) (ci := 1) (v := .ref a2) (C := RL) (T := TL) (N := 4) hx hb hts iL hown hK hP 0 rfl rfl 1 (by decide) (hts _ w_82) (fun _ h9 => h9) rfl dL_nodeOnWay_3 ?_
  refine lv_iload_n hx hb dL_nodeOnWay_6 rfl (lv_at hl 2 rfl) ?_
  refine ka_iald (k := v) hx hb hK hP 2 0 rfl rfl (by omega) (by omega) rfl dL_nodeOnWay_7 ?_
  refine lv_topi (fun y_ ey_ => ?_)
  obtain rfl : y_ = nI K := ey_.trans hKv
  refine lv_istore (lv' := [(4, .int (nI K)), (3, .int (nI v)), (0, .ref a0), (1, .int (nI v)), (2, .int (nI i))]) hx hb dL_nodeOnWay_8 hl (by decide) rfl (fun ls hl => ?_)
  refine ll_back hx hb hml hown hts hK hA a0 a1 a2 a3 fd fh fp ti v i K (by first | assumption | omega) (by first | assumption | omega) (by first | assumption | omega) (by first | assumption | omega) (fun H locs ls hP hD hS hl => ?_) (K - i) 0 (by omega) _ _ ls hP hD hS (lv_sub hl [2, 4, 1, 0] rfl)
  refine lv_iload_n hx hb dL_nodeOnWay_33 rfl (lv_at hl 0 rfl) ?_
  exact k_iret hx hb hr hlocks hK hS rfl hP hD dL_nodeOnWay_34
set_option maxHeartbeats 4000000 in
set_option maxRecDepth 100000 in
theorem ll_diff {p : Program} {l : Launch} {e : Env} {s : State} {m : MethodId} {args : Array Value} {below : List Frame} {meth : Method} {c : Code} {Q : State → Prop} {D : va_G} {τ : Nat → ClassId} {A : Nat → Prop} (hx : p.tables.exec = Jvm.exec) (hb : c.code = cL_differingNodes) (hml : c.maxLocals = 4) (hown : s.vm.findClass RL = some m.cls) (hts : ∀ w ∈ kTbl, w.before args s = true) (hK : va_K D vwCl (kTys τ) s) (hA : ∀ q : Nat, s.heap.size ≤ q → A q) (a0 : Nat) (a1 : Nat) (a2 : Nat) (a3 : Nat) (fd : Nat → Int32) (fh : Nat → Int32) (fp : Nat → Int32) (ti : Int32) (b0 : Nat) (b1 : Nat) (b2 : Nat) (b3 : Nat) (ed : Nat → Int32) (eh : Nat → Int32) (ep : Nat → Int32) (te : Int32) 
    (kx : ∀ (H : Heap) (locs : List Loc) (ls : Array Slot), va_P D vwCl [(a0, .inr (1, [.ref a1, .ref a2, .ref a3, .int ti])), (a1, .inl (τ 0, 24, .inl fd)), (a2, .inl (τ 0, 24, .inl fh)), (a3, .inl (τ 0, 24, .inl fp)), (b0, .inr (1, [.ref b1, .ref b2, .ref b3, .int te])), (b1, .inl (τ 0, 24, .inl ed)), (b2, .inl (τ 0, 24, .inl eh)), (b3, .inl (τ 0, 24, .inl ep))] H → va_D A [(a0, .inr (1, [.ref a1, .ref a2, .ref a3, .int ti])), (a1, .inl (τ 0, 24, .inl fd)), (a2, .inl (τ 0, 24, .inl fh)), (a3, .inl (τ 0, 24, .inl fp)), (b0, .inr (1, [.ref b1, .ref b2, .ref b3, .int te])), (b1, .inl (τ 0, 24, .inl ed)), (b2, .inl (τ 0, 24, .inl eh)), (b3, .inl (τ 0, 24, .inl ep))] → va_S A s.heap H locs → lv_has ls 4 [(2, .int (kItr (kDif fd fh fp ed eh ep) 24 (0)))] → W p l e (headSpec (kWs yL_differingNodes cL_differingNodes 4 (some .int)) { frames := 0, cells := 0, slots := 0, locals := 0 }).room s m args below meth c H locs 0 0 Q (F0 m 67 ls [])) :
    ∀ (n k : Nat), k + n = 24 → ∀ (H : Heap) (locs : List Loc) (ls : Array Slot), va_P D vwCl [(a0, .inr (1, [.ref a1, .ref a2, .ref a3, .int ti])), (a1, .inl (τ 0, 24, .inl fd)), (a2, .inl (τ 0, 24, .inl fh)), (a3, .inl (τ 0, 24, .inl fp)), (b0, .inr (1, [.ref b1, .ref b2, .ref b3, .int te])), (b1, .inl (τ 0, 24, .inl ed)), (b2, .inl (τ 0, 24, .inl eh)), (b3, .inl (τ 0, 24, .inl ep))] H → va_D A [(a0, .inr (1, [.ref a1, .ref a2, .ref a3, .int ti])), (a1, .inl (τ 0, 24, .inl fd)), (a2, .inl (τ 0, 24, .inl fh)), (a3, .inl (τ 0, 24, .inl fp)), (b0, .inr (1, [.ref b1, .ref b2, .ref b3, .int te])), (b1, .inl (τ 0, 24, .inl ed)), (b2, .inl (τ 0, 24, .inl eh)), (b3, .inl (τ 0, 24, .inl ep))] → va_S A s.heap H locs → lv_has ls 4 [(0, .ref a0), (1, .ref b0), (2, .int (kItr (kDif fd fh fp ed eh ep) k (0))), (3, .int (nI k))] → W p l e (headSpec (kWs yL_differingNodes cL_differingNodes 4 (some .int)) { frames := 0, cells := 0, slots := 0, locals := 0 }).room s m args below meth c H locs 0 0 Q (F0 m 4 ls []) := by
  intro n
  induction n with
  | zero =>
    intro k hk H locs ls hP hD hS hl
    have hkN : 24 = k := by omega
    subst hkN
    revert hP hD hl
    generalize hst : (kItr (kDif fd fh fp ed eh ep) 24 (0)) = x
    intro hP hD hl
    have hP : va_P D vwCl [(a0, .inr (1, [.ref a1, .ref a2, .ref a3, .int ti])), (a1, .inl (τ 0, 24, .inl fd)), (a2, .inl (τ 0, 24, .inl fh)), (a3, .inl (τ 0, 24, .inl fp)), (b0, .inr (1, [.ref b1, .ref b2, .ref b3, .int te])), (b1, .inl (τ 0, 24, .inl ed)), (b2, .inl (τ 0, 24, .inl eh)), (b3, .inl (τ 0, 24, .inl ep))] H := hP
    have hD : va_D A [(a0, .inr (1, [.ref a1, .ref a2, .ref a3, .int ti])), (a1, .inl (τ 0, 24, .inl fd)), (a2, .inl (τ 0, 24, .inl fh)), (a3, .inl (τ 0, 24, .inl fp)), (b0, .inr (1, [.ref b1, .ref b2, .ref b3, .int te])), (b1, .inl (τ 0, 24, .inl ed)), (b2, .inl (τ 0, 24, .inl eh)), (b3, .inl (τ 0, 24, .inl ep))] := hD
    have hl : lv_has ls 4 [(0, .ref a0), (1, .ref b0), (2, .int x), (3, .int (nI 24))] := hl
    refine lv_iload_n hx hb dL_differingNodes_4 rfl (lv_at hl 3 rfl) ?_
    refine lv_bipush (v := 24) hx hb dL_differingNodes_5 (by decide) ?_
    refine lv_icmp_ge (tgt := 67) hx hb dL_differingNodes_7 (by decide) (fun c_7 => ?_) (fun c_7 => absurd (by decide) c_7)
    exact kx H locs ls (by (try rw [hst]); exact hP) (by (try rw [hst]); exact hD) hS (by (try rw [hst]); exact lv_sub hl [2] rfl)
  | succ n ih =>
    intro k hk H locs ls hP hD hS hl
    have hkN : k < 24 := by omega
    have ih := ih (k + 1) (by omega)
    rw [kItr_s] at ih
    revert hP hD hl ih
    generalize hst : (kItr (kDif fd fh fp ed eh ep) k (0)) = x
    intro hP hD hl ih
    have hP : va_P D vwCl [(a0, .inr (1, [.ref a1, .ref a2, .ref a3, .int ti])), (a1, .inl (τ 0, 24, .inl fd)), (a2, .inl (τ 0, 24, .inl fh)), (a3, .inl (τ 0, 24, .inl fp)), (b0, .inr (1, [.ref b1, .ref b2, .ref b3, .int te])), (b1, .inl (τ 0, 24, .inl ed)), (b2, .inl (τ 0, 24, .inl eh)), (b3, .inl (τ 0, 24, .inl ep))] H := hP
    have hD : va_D A [(a0, .inr (1, [.ref a1, .ref a2, .ref a3, .int ti])), (a1, .inl (τ 0, 24, .inl fd)), (a2, .inl (τ 0, 24, .inl fh)), (a3, .inl (τ 0, 24, .inl fp)), (b0, .inr (1, [.ref b1, .ref b2, .ref b3, .int te])), (b1, .inl (τ 0, 24, .inl ed)), (b2, .inl (τ 0, 24, .inl eh)), (b3, .inl (τ 0, 24, .inl ep))] := hD
    have hl : lv_has ls 4 [(0, .ref a0), (1, .ref b0), (2, .int x), (3, .int (nI k))] := hl
    refine lv_iload_n hx hb dL_differingNodes_4 rfl (lv_at hl 3 rfl) ?_
    refine lv_bipush (v := 24) hx hb dL_differingNodes_5 (by decide) ?_
    refine lv_icmp_ge (tgt := 67) hx hb dL_differingNodes_7 (by decide) (fun c_7 => absurd c_7 (nI_ge (b := 24) hkN (by decide))) (fun c_7 => ?_)
    refine lv_aload_n hx hb dL_differingNodes_10 rfl (lv_at hl 0 rfl) ?_
    refine va_get (D := D) (ci := 1) (v := .ref a1) (C := RL) (T := TL) (N := 4) hx hb hts iL hown hK hP 0 rfl rfl 0 (by decide) (hts _ w_80) (fun _ h9 => h9) rfl dL_differingNodes_11 ?_
    refine lv_iload_n hx hb dL_differingNodes_14 rfl (lv_at hl 3 rfl) ?_
    refine ka_iald (k := k) hx hb hK hP 1 0 rfl rfl (by omega) (by omega) rfl dL_differingNodes_15 ?_
    refine lv_aload_n hx hb dL_differingNodes_16 rfl (lv_at hl 1 rfl) ?_
    refine va_get (D := D) (ci := 1) (v := .ref b1) (C := RL) (T := TL) (N := 4) hx hb hts iL hown hK hP 4 rfl rfl 0 (by decide) (hts _ w_80) (fun _ h9 => h9) rfl dL_differingNodes_17 ?_
    refine lv_iload_n hx hb dL_differingNodes_20 rfl (lv_at hl 3 rfl) ?_
    refine ka_iald (k := k) hx hb hK hP 5 0 rfl rfl (by omega) (by omega) rfl dL_differingNodes_21 ?_
    refine lv_icmp_ne (tgt := 55) hx hb dL_differingNodes_22 (by decide) (fun c_22 => ?_) (fun c_22 => ?_)
    · skip
      refine lv_iload_n hx hb dL_differingNodes_55 rfl (lv_at hl 2 rfl) ?_
      refine lv_iconst (v := 1) hx hb dL_differingNodes_56 (by decide) ?_
      refine lv_iload_n hx hb dL_differingNodes_57 rfl (lv_at hl 3 rfl) ?_
      refine lv_ishl hx hb dL_differingNodes_58 ?_
      refine lv_ior hx hb dL_differingNodes_59 ?_
      refine lv_istore_n (lv' := [(2, .int (x ||| (1 <<< ((nI k) &&& 31)))), (0, .ref a0), (1, .ref b0), (3, .int (nI k))]) hx hb dL_differingNodes_60 rfl hl (by decide) rfl (fun ls hl => ?_)
      refine lv_iinc (v := nI (k + 1)) (lv' := [(3, .int (nI (k + 1))), (2, .int (x ||| (1 <<< ((nI k) &&& 31)))), (0, .ref a0), (1, .ref b0)]) hx hb dL_differingNodes_61 hl (k := 3) rfl (nI_1 _) (by decide) rfl (fun ls hl => ?_)
      refine lv_goto (tgt := 4) hx hb dL_differingNodes_64 (by decide) ?_
      have e_ : (kDif fd fh fp ed eh ep) k (x) = (x ||| (1 <<< ((nI k) &&& 31))) := by unfold kDif; exact kIf_f (fun z => c_22 z.1)
      (try rw [e_] at ih)
      exact ih H locs ls hP hD hS (lv_sub hl [2, 3, 1, 0] rfl)
    · skip
      refine lv_aload_n hx hb dL_differingNodes_25 rfl (lv_at hl 0 rfl) ?_
      refine va_get (D := D) (ci := 1) (v := .ref a2) (C := RL) (T := TL) (N := 4) hx hb hts iL hown hK hP 0 rfl rfl 1 (by decide) (hts _ w_82) (fun _ h9 => h9) rfl dL_differingNodes_26 ?_
      refine lv_iload_n hx hb dL_differingNodes_29 rfl (lv_at hl 3 rfl) ?_
      refine ka_iald (k := k) hx hb hK hP 2 0 rfl rfl (by omega) (by omega) rfl dL_differingNodes_30 ?_
      refine lv_aload_n hx hb dL_differingNodes_31 rfl (lv_at hl 1 rfl) ?_
      refine va_get (D := D) (ci := 1) (v := .ref b2) (C := RL) (T := TL) (N := 4) hx hb hts iL hown hK hP 4 rfl rfl 1 (by decide) (hts _ w_82) (fun _ h9 => h9) rfl dL_differingNodes_32 ?_
      refine lv_iload_n hx hb dL_differingNodes_35 rfl (lv_at hl 3 rfl) ?_
      refine ka_iald (k := k) hx hb hK hP 6 0 rfl rfl (by omega) (by omega) rfl dL_differingNodes_36 ?_
      refine lv_icmp_ne (tgt := 55) hx hb dL_differingNodes_37 (by decide) (fun c_37 => ?_) (fun c_37 => ?_)
      · skip
        refine lv_iload_n hx hb dL_differingNodes_55 rfl (lv_at hl 2 rfl) ?_
        refine lv_iconst (v := 1) hx hb dL_differingNodes_56 (by decide) ?_
        refine lv_iload_n hx hb dL_differingNodes_57 rfl (lv_at hl 3 rfl) ?_
        refine lv_ishl hx hb dL_differingNodes_58 ?_
        refine lv_ior hx hb dL_differingNodes_59 ?_
        refine lv_istore_n (lv' := [(2, .int (x ||| (1 <<< ((nI k) &&& 31)))), (0, .ref a0), (1, .ref b0), (3, .int (nI k))]) hx hb dL_differingNodes_60 rfl hl (by decide) rfl (fun ls hl => ?_)
        refine lv_iinc (v := nI (k + 1)) (lv' := [(3, .int (nI (k + 1))), (2, .int (x ||| (1 <<< ((nI k) &&& 31)))), (0, .ref a0), (1, .ref b0)]) hx hb dL_differingNodes_61 hl (k := 3) rfl (nI_1 _) (by decide) rfl (fun ls hl => ?_)
        refine lv_goto (tgt := 4) hx hb dL_differingNodes_64 (by decide) ?_
        have e_ : (kDif fd fh fp ed eh ep) k (x) = (x ||| (1 <<< ((nI k) &&& 31))) := by unfold kDif; exact kIf_f (fun z => c_37 z.2.1)
        (try rw [e_] at ih)
        exact ih H locs ls hP hD hS (lv_sub hl [2, 3, 1, 0] rfl)
      · skip
        refine lv_aload_n hx hb dL_differingNodes_40 rfl (lv_at hl 0 rfl) ?_
        refine va_get (D := D) (ci := 1) (v := .ref a3) (C := RL) (T := TL) (N := 4) hx hb hts iL hown hK hP 0 rfl rfl 2 (by decide) (hts _ w_84) (fun _ h9 => h9) rfl dL_differingNodes_41 ?_
        refine lv_iload_n hx hb dL_differingNodes_44 rfl (lv_at hl 3 rfl) ?_
        refine ka_iald (k := k) hx hb hK hP 3 0 rfl rfl (by omega) (by omega) rfl dL_differingNodes_45 ?_
        refine lv_aload_n hx hb dL_differingNodes_46 rfl (lv_at hl 1 rfl) ?_
        refine va_get (D := D) (ci := 1) (v := .ref b3) (C := RL) (T := TL) (N := 4) hx hb hts iL hown hK hP 4 rfl rfl 2 (by decide) (hts _ w_84) (fun _ h9 => h9) rfl dL_differingNodes_47 ?_
        refine lv_iload_n hx hb dL_differingNodes_50 rfl (lv_at hl 3 rfl) ?_
        refine ka_iald (k := k) hx hb hK hP 7 0 rfl rfl (by omega) (by omega) rfl dL_differingNodes_51 ?_
        refine lv_icmp_eq (tgt := 61) hx hb dL_differingNodes_52 (by decide) (fun c_52 => ?_) (fun c_52 => ?_)
        · skip
          refine lv_iinc (v := nI (k + 1)) (lv' := [(3, .int (nI (k + 1))), (0, .ref a0), (1, .ref b0), (2, .int x)]) hx hb dL_differingNodes_61 hl (k := 3) rfl (nI_1 _) (by decide) rfl (fun ls hl => ?_)
          refine lv_goto (tgt := 4) hx hb dL_differingNodes_64 (by decide) ?_
          have e_ : (kDif fd fh fp ed eh ep) k (x) = (x) := by unfold kDif; exact kIf_t ⟨c_22, c_37, c_52⟩
          (try rw [e_] at ih)
          exact ih H locs ls hP hD hS (lv_sub hl [1, 2, 3, 0] rfl)
        · skip
          refine lv_iload_n hx hb dL_differingNodes_55 rfl (lv_at hl 2 rfl) ?_
          refine lv_iconst (v := 1) hx hb dL_differingNodes_56 (by decide) ?_
          refine lv_iload_n hx hb dL_differingNodes_57 rfl (lv_at hl 3 rfl) ?_
          refine lv_ishl hx hb dL_differingNodes_58 ?_
          refine lv_ior hx hb dL_differingNodes_59 ?_
          refine lv_istore_n (lv' := [(2, .int (x ||| (1 <<< ((nI k) &&& 31)))), (0, .ref a0), (1, .ref b0), (3, .int (nI k))]) hx hb dL_differingNodes_60 rfl hl (by decide) rfl (fun ls hl => ?_)
          refine lv_iinc (v := nI (k + 1)) (lv' := [(3, .int (nI (k + 1))), (2, .int (x ||| (1 <<< ((nI k) &&& 31)))), (0, .ref a0), (1, .ref b0)]) hx hb dL_differingNodes_61 hl (k := 3) rfl (nI_1 _) (by decide) rfl (fun ls hl => ?_)
          refine lv_goto (tgt := 4) hx hb dL_differingNodes_64 (by decide) ?_
          have e_ : (kDif fd fh fp ed eh ep) k (x) = (x ||| (1 <<< ((nI k) &&& 31))) := by unfold kDif; exact kIf_f (fun z => c_52 z.2.2)
          (try rw [e_] at ih)
          exact ih H locs ls hP hD hS (lv_sub hl [2, 3, 1, 0] rfl)
set_option maxHeartbeats 4000000 in
set_option maxRecDepth 100000 in
theorem cl_diff (l : Launch) (D : va_G) (τ : Nat → ClassId) (a0 : Nat) (a1 : Nat) (a2 : Nat) (a3 : Nat) (fd : Nat → Int32) (fh : Nat → Int32) (fp : Nat → Int32) (ti : Int32) (b0 : Nat) (b1 : Nat) (b2 : Nat) (b3 : Nat) (ed : Nat → Int32) (eh : Nat → Int32) (ep : Nat → Int32) (te : Int32)  : kMi l D τ yL_differingNodes (kWs yL_differingNodes cL_differingNodes 4 (some .int)) { frames := 0, cells := 0, slots := 0, locals := 0 } [.ref a0, .ref b0] [(a0, .inr (1, [.ref a1, .ref a2, .ref a3, .int ti])), (a1, .inl (τ 0, 24, .inl fd)), (a2, .inl (τ 0, 24, .inl fh)), (a3, .inl (τ 0, 24, .inl fp)), (b0, .inr (1, [.ref b1, .ref b2, .ref b3, .int te])), (b1, .inl (τ 0, 24, .inl ed)), (b2, .inl (τ 0, 24, .inl eh)), (b3, .inl (τ 0, 24, .inl ep))] (kDiff (fd, fh, fp, ti) (ed, eh, ep, te)) [(a0, .inr (1, [.ref a1, .ref a2, .ref a3, .int ti])), (a1, .inl (τ 0, 24, .inl fd)), (a2, .inl (τ 0, 24, .inl fh)), (a3, .inl (τ 0, 24, .inl fp)), (b0, .inr (1, [.ref b1, .ref b2, .ref b3, .int te])), (b1, .inl (τ 0, 24, .inl ed)), (b2, .inl (τ 0, 24, .inl eh)), (b3, .inl (τ 0, 24, .inl ep))] := by
  intro sz
  refine Met.ofW (cc := cL_differingNodes) (maxL := 4) (ret := (some .int)) (by decide) rfl ?_
  intro p e s m args below meth c s₁ B hml hv
  obtain ⟨rfl, hsz, hP, hK, hD0⟩ := hv
  have hx := B.exec
  have hb := B.bytes
  have hr := B.returns
  have hts := fun w (hw : w ∈ kTbl) => atoms_spec (ws := (kWs yL_differingNodes cL_differingNodes 4 (some .int))) B.pre w (List.mem_cons_of_mem _ hw)
  have hown : s.vm.findClass RL = some m.cls := findClass_of_methodNamed B.named
  have hlocks := B.notSynchronized
  subst hsz
  have hD := hD0.self (sz := s.heap.size)
  generalize hAe : va_A [(a0, .inr (1, [.ref a1, .ref a2, .ref a3, .int ti])), (a1, .inl (τ 0, 24, .inl fd)), (a2, .inl (τ 0, 24, .inl fh)), (a3, .inl (τ 0, 24, .inl fp)), (b0, .inr (1, [.ref b1, .ref b2, .ref b3, .int te])), (b1, .inl (τ 0, 24, .inl ed)), (b2, .inl (τ 0, 24, .inl eh)), (b3, .inl (τ 0, 24, .inl ep))] s.heap.size = A at hD ⊢
  have hA : ∀ q : Nat, s.heap.size ≤ q → A q := fun q h => by rw [← hAe]; exact Or.inr h
  have hS : va_S A s.heap s.heap [] := va_S.rf
  have hP : va_P D vwCl [(a0, .inr (1, [.ref a1, .ref a2, .ref a3, .int ti])), (a1, .inl (τ 0, 24, .inl fd)), (a2, .inl (τ 0, 24, .inl fh)), (a3, .inl (τ 0, 24, .inl fp)), (b0, .inr (1, [.ref b1, .ref b2, .ref b3, .int te])), (b1, .inl (τ 0, 24, .inl ed)), (b2, .inl (τ 0, 24, .inl eh)), (b3, .inl (τ 0, 24, .inl ep))] s.heap := hP
  have hl := lv_entry ([.ref a0, .ref b0]) (n := 4) (Nat.le_of_ble_eq_true rfl)
  rw [lg_entry_eq]
  generalize (lg_sl ([.ref a0, .ref b0]) ++ List.replicate (4 - (lg_sl ([.ref a0, .ref b0])).length) Slot.unset).toArray = ls at hl ⊢
  have hl : lv_has ls 4 [(0, .ref a0), (1, .ref b0)] := hl
  skip
  refine lv_iconst (v := 0) hx hb dL_differingNodes_0 (by decide) ?_
  refine lv_istore_n (lv' := [(2, .int 0), (0, .ref a0), (1, .ref b0)]) hx hb dL_differingNodes_1 rfl hl (by decide) rfl (fun ls hl => ?_)
  refine lv_iconst (v := 0) hx hb dL_differingNodes_2 (by decide) ?_
  refine lv_istore_n (lv' := [(3, .int 0), (2, .int 0), (0, .ref a0), (1, .ref b0)]) hx hb dL_differingNodes_3 rfl hl (by decide) rfl (fun ls hl => ?_)
  refine ll_diff hx hb hml hown hts hK hA a0 a1 a2 a3 fd fh fp ti b0 b1 b2 b3 ed eh ep te  (fun H locs ls hP hD hS hl => ?_) 24 0 (by omega) _ _ ls hP hD hS (lv_sub hl [2, 3, 1, 0] rfl)
  refine lv_iload_n hx hb dL_differingNodes_67 rfl (lv_at hl 0 rfl) ?_
  exact k_iret hx hb hr hlocks hK hS rfl hP hD dL_differingNodes_68
