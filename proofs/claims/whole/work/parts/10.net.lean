set_option maxHeartbeats 4000000 in
set_option maxRecDepth 100000 in
/-- isNode -/
theorem cn_isNode (l : Launch) (D : va_G) (τ : Nat → ClassId) (n0 : Nat) (n1 : Nat) (N : Nat) (ar : Int32) (v : Int32)  : kMi l D τ yN_isNode (kWs yN_isNode cN_isNode 2 (some .boolean)) { frames := 0, cells := 0, slots := 0, locals := 0 } [.ref n0, .int v] [(n0, .inr (2, [.int (nI N), .int ar, .ref n1]))] (kB (kNode N v)) [(n0, .inr (2, [.int (nI N), .int ar, .ref n1]))] := by
  intro sz
  refine Met.ofW (cc := cN_isNode) (maxL := 2) (ret := (some .boolean)) (by decide) rfl ?_
  intro p e s m args below meth c s₁ B hml hv
  obtain ⟨rfl, hsz, hP, hK, hD0⟩ := hv
  have hx := B.exec
  have hb := B.bytes
  have hr := B.returns
  have hts := fun w (hw : w ∈ kTbl) => atoms_spec (ws := (kWs yN_isNode cN_isNode 2 (some .boolean))) B.pre w (List.mem_cons_of_mem _ hw)
  have hown : s.vm.findClass RN = some m.cls := findClass_of_methodNamed B.named
  have hlocks := B.notSynchronized
  subst hsz
  have hD := hD0.self (sz := s.heap.size)
  generalize hAe : va_A [(n0, .inr (2, [.int (nI N), .int ar, .ref n1]))] s.heap.size = A at hD ⊢
  have hA : ∀ q : Nat, s.heap.size ≤ q → A q := fun q h => by rw [← hAe]; exact Or.inr h
  have hS : va_S A s.heap s.heap [] := va_S.rf
  have hP : va_P D vwCl [(n0, .inr (2, [.int (nI N), .int ar, .ref n1]))] s.heap := hP
  have hl := lv_entry ([.ref n0, .int v]) (n := 2) (Nat.le_of_ble_eq_true rfl)
  rw [lg_entry_eq]
  generalize (lg_sl ([.ref n0, .int v]) ++ List.replicate (2 - (lg_sl ([.ref n0, .int v])).length) Slot.unset).toArray = ls at hl ⊢
  have hl : lv_has ls 2 [(0, .ref n0), (1, .int v)] := hl
  skip
  refine lv_iload_n hx hb dN_isNode_0 rfl (lv_at hl 1 rfl) ?_
  refine lv_if_lt (tgt := 16) hx hb dN_isNode_1 (by decide) (fun c_1 => ?_) (fun c_1 => ?_)
  · skip
    refine lv_iconst (v := 0) hx hb dN_isNode_16 (by decide) ?_
    exact k_zret hx hb hr hlocks hK hS rfl ((kB_f (by simp [kNode, c_1, Int32.not_le.mpr c_1])).symm) hP hD dN_isNode_17
  · skip
    refine lv_iload_n hx hb dN_isNode_4 rfl (lv_at hl 1 rfl) ?_
    refine lv_aload_n hx hb dN_isNode_5 rfl (lv_at hl 0 rfl) ?_
    refine va_get (D := D) (ci := 2) (v := .int (nI N)) (C := RN) (T := TN) (N := 3) hx hb hts iN hown hK hP 0 rfl rfl 0 (by decide) (hts _ w_26) (fun _ h9 => h9) rfl dN_isNode_6 ?_
    refine lv_icmp_ge (tgt := 16) hx hb dN_isNode_9 (by decide) (fun c_9 => ?_) (fun c_9 => ?_)
    · skip
      refine lv_iconst (v := 0) hx hb dN_isNode_16 (by decide) ?_
      exact k_zret hx hb hr hlocks hK hS rfl ((kB_f (by simp [kNode, c_1, Int32.not_lt.mp c_1, c_9, Int32.not_lt.mpr c_9])).symm) hP hD dN_isNode_17
    · skip
      refine lv_iconst (v := 1) hx hb dN_isNode_12 (by decide) ?_
      refine lv_goto (tgt := 17) hx hb dN_isNode_13 (by decide) ?_
      exact k_zret hx hb hr hlocks hK hS rfl ((kB_t (by simp [kNode, c_1, Int32.not_lt.mp c_1, c_9, Int32.not_le.mp c_9])).symm) hP hD dN_isNode_17
set_option maxHeartbeats 4000000 in
set_option maxRecDepth 100000 in
theorem cn_two (l : Launch) (D : va_G) (τ : Nat → ClassId) (n0 : Nat) (n1 : Nat) (N : Nat) (ar : Int32) (a : Int32) (b : Int32)  : kMi l D τ yN_areTwoNodes (kWs yN_areTwoNodes cN_areTwoNodes 3 (some .boolean)) { frames := 1, cells := 0, slots := 0, locals := 21 } [.ref n0, .int a, .int b] [(n0, .inr (2, [.int (nI N), .int ar, .ref n1]))] (kB (kTwo N a b)) [(n0, .inr (2, [.int (nI N), .int ar, .ref n1]))] := by
  intro sz
  refine Met.ofW (cc := cN_areTwoNodes) (maxL := 3) (ret := (some .boolean)) (by decide) rfl ?_
  intro p e s m args below meth c s₁ B hml hv
  obtain ⟨rfl, hsz, hP, hK, hD0⟩ := hv
  have hx := B.exec
  have hb := B.bytes
  have hr := B.returns
  have hts := fun w (hw : w ∈ kTbl) => atoms_spec (ws := (kWs yN_areTwoNodes cN_areTwoNodes 3 (some .boolean))) B.pre w (List.mem_cons_of_mem _ hw)
  have hown : s.vm.findClass RN = some m.cls := findClass_of_methodNamed B.named
  have hlocks := B.notSynchronized
  subst hsz
  have hD := hD0.self (sz := s.heap.size)
  generalize hAe : va_A [(n0, .inr (2, [.int (nI N), .int ar, .ref n1]))] s.heap.size = A at hD ⊢
  have hA : ∀ q : Nat, s.heap.size ≤ q → A q := fun q h => by rw [← hAe]; exact Or.inr h
  have hS : va_S A s.heap s.heap [] := va_S.rf
  have hP : va_P D vwCl [(n0, .inr (2, [.int (nI N), .int ar, .ref n1]))] s.heap := hP
  have hl := lv_entry ([.ref n0, .int a, .int b]) (n := 3) (Nat.le_of_ble_eq_true rfl)
  rw [lg_entry_eq]
  generalize (lg_sl ([.ref n0, .int a, .int b]) ++ List.replicate (3 - (lg_sl ([.ref n0, .int a, .int b])).length) Slot.unset).toArray = ls at hl ⊢
  have hl : lv_has ls 3 [(0, .ref n0), (1, .int a), (2, .int b)] := hl
  skip
  refine lv_aload_n hx hb dN_areTwoNodes_0 rfl (lv_at hl 0 rfl) ?_
  refine lv_iload_n hx hb dN_areTwoNodes_1 rfl (lv_at hl 1 rfl) ?_
  refine kc_Vi (As := [.int a]) (rest := []) (wr := []) (W1 := [(n0, .inr (2, [.int (nI N), .int ar, .ref n1]))]) ⟨hx, hb, hml, hown, hts⟩ (cn_isNode l D τ n0 n1 N ar a ) (kcwV hts qN_isNode w_204 rfl rfl ⟨Nat.le_of_ble_eq_true rfl, Nat.le_of_ble_eq_true rfl⟩) hK hP hD hS hA [0] [] [0] rfl rfl (by decide) (by decide) (by decide) rfl rfl rfl (by decide) hl.1 rfl rfl (Nat.le_of_ble_eq_true rfl) ⟨Nat.zero_le _, Nat.zero_le _⟩ dN_areTwoNodes_2 (fun H locs hP hD hS => ?_)
  refine lv_if_eq (tgt := 25) hx hb dN_areTwoNodes_5 (by decide) (fun c_5 => ?_) (fun c_5 => ?_)
  · skip
    have c_5 := kB_0.mp c_5
    refine lv_iconst (v := 0) hx hb dN_areTwoNodes_25 (by decide) ?_
    exact k_zret hx hb hr hlocks hK hS rfl ((kB_f (by simp [kTwo, c_5])).symm) hP hD dN_areTwoNodes_26
  · skip
    have c_5 := kB_1.mp c_5
    refine lv_aload_n hx hb dN_areTwoNodes_8 rfl (lv_at hl 0 rfl) ?_
    refine lv_iload_n hx hb dN_areTwoNodes_9 rfl (lv_at hl 2 rfl) ?_
    refine kc_Vi (As := [.int b]) (rest := []) (wr := []) (W1 := [(n0, .inr (2, [.int (nI N), .int ar, .ref n1]))]) ⟨hx, hb, hml, hown, hts⟩ (cn_isNode l D τ n0 n1 N ar b ) (kcwV hts qN_isNode w_204 rfl rfl ⟨Nat.le_of_ble_eq_true rfl, Nat.le_of_ble_eq_true rfl⟩) hK hP hD hS hA [0] [] [0] rfl rfl (by decide) (by decide) (by decide) rfl rfl rfl (by decide) hl.1 rfl rfl (Nat.le_of_ble_eq_true rfl) ⟨Nat.zero_le _, Nat.zero_le _⟩ dN_areTwoNodes_10 (fun H locs hP hD hS => ?_)
    refine lv_if_eq (tgt := 25) hx hb dN_areTwoNodes_13 (by decide) (fun c_13 => ?_) (fun c_13 => ?_)
    · skip
      have c_13 := kB_0.mp c_13
      refine lv_iconst (v := 0) hx hb dN_areTwoNodes_25 (by decide) ?_
      exact k_zret hx hb hr hlocks hK hS rfl ((kB_f (by simp [kTwo, c_5, c_13])).symm) hP hD dN_areTwoNodes_26
    · skip
      have c_13 := kB_1.mp c_13
      refine lv_iload_n hx hb dN_areTwoNodes_16 rfl (lv_at hl 1 rfl) ?_
      refine lv_iload_n hx hb dN_areTwoNodes_17 rfl (lv_at hl 2 rfl) ?_
      refine lv_icmp_eq (tgt := 25) hx hb dN_areTwoNodes_18 (by decide) (fun c_18 => ?_) (fun c_18 => ?_)
      · skip
        refine lv_iconst (v := 0) hx hb dN_areTwoNodes_25 (by decide) ?_
        exact k_zret hx hb hr hlocks hK hS rfl ((kB_f (by simp [kTwo, c_5, c_13, c_18])).symm) hP hD dN_areTwoNodes_26
      · skip
        refine lv_iconst (v := 1) hx hb dN_areTwoNodes_21 (by decide) ?_
        refine lv_goto (tgt := 26) hx hb dN_areTwoNodes_22 (by decide) ?_
        exact k_zret hx hb hr hlocks hK hS rfl ((kB_t (by simp [kTwo, c_5, c_13, c_18])).symm) hP hD dN_areTwoNodes_26
set_option maxHeartbeats 4000000 in
set_option maxRecDepth 100000 in
theorem cn_add (l : Launch) (D : va_G) (τ : Nat → ClassId) (n0 : Nat) (n1 : Nat) (N : Nat) (ar : Int32)  : kMi l D τ yN_addNode (kWs yN_addNode cN_addNode 1 (some .int)) { frames := 0, cells := 0, slots := 0, locals := 0 } [.ref n0] [(n0, .inr (2, [.int (nI N), .int ar, .ref n1]))] (nI N) [(n0, .inr (2, [.int (nI (N + 1)), .int ar, .ref n1]))] := by
  intro sz
  refine Met.ofW (cc := cN_addNode) (maxL := 1) (ret := (some .int)) (by decide) rfl ?_
  intro p e s m args below meth c s₁ B hml hv
  obtain ⟨rfl, hsz, hP, hK, hD0⟩ := hv
  have hx := B.exec
  have hb := B.bytes
  have hr := B.returns
  have hts := fun w (hw : w ∈ kTbl) => atoms_spec (ws := (kWs yN_addNode cN_addNode 1 (some .int))) B.pre w (List.mem_cons_of_mem _ hw)
  have hown : s.vm.findClass RN = some m.cls := findClass_of_methodNamed B.named
  have hlocks := B.notSynchronized
  subst hsz
  have hD := hD0.self (sz := s.heap.size)
  generalize hAe : va_A [(n0, .inr (2, [.int (nI N), .int ar, .ref n1]))] s.heap.size = A at hD ⊢
  have hA : ∀ q : Nat, s.heap.size ≤ q → A q := fun q h => by rw [← hAe]; exact Or.inr h
  have hS : va_S A s.heap s.heap [] := va_S.rf
  have hP : va_P D vwCl [(n0, .inr (2, [.int (nI N), .int ar, .ref n1]))] s.heap := hP
  have hl := lv_entry ([.ref n0]) (n := 1) (Nat.le_of_ble_eq_true rfl)
  rw [lg_entry_eq]
  generalize (lg_sl ([.ref n0]) ++ List.replicate (1 - (lg_sl ([.ref n0])).length) Slot.unset).toArray = ls at hl ⊢
  have hl : lv_has ls 1 [(0, .ref n0)] := hl
  skip
  refine lv_aload_n hx hb dN_addNode_0 rfl (lv_at hl 0 rfl) ?_
  refine lv_dup hx hb dN_addNode_1 rfl ?_
  refine va_get (D := D) (ci := 2) (v := .int (nI N)) (C := RN) (T := TN) (N := 3) hx hb hts iN hown hK hP 0 rfl rfl 0 (by decide) (hts _ w_26) (fun _ h9 => h9) rfl dN_addNode_2 ?_
  refine lv_dup_x1 hx hb dN_addNode_5 rfl rfl ?_
  refine lv_iconst (v := 1) hx hb dN_addNode_6 (by decide) ?_
  refine lv_iadd hx hb dN_addNode_7 ?_
  refine lv_topi (fun y_ ey_ => ?_)
  obtain rfl : y_ = nI (N + 1) := ey_.trans (nI_1 N)
  refine va_put (D := D) (ci := 2) (v := .int (nI (N + 1))) (ty := .int) (C := RN) (T := TN) (N := 3) hx hb hts iN tyN tyN_ok nmN hown hK hP hD hS 0 rfl rfl 0 (by decide) (hts _ w_26) (fun _ h9 => h9) rfl (by decide +kernel) rfl rfl (Nat.le_of_ble_eq_true rfl) dN_addNode_8 (fun H locs hP hD hS => ?_)
  have hP : va_P D vwCl [(n0, .inr (2, [.int (nI (N + 1)), .int ar, .ref n1]))] H := hP
  have hD : va_D A [(n0, .inr (2, [.int (nI (N + 1)), .int ar, .ref n1]))] := hD
  exact k_iret hx hb hr hlocks hK hS rfl hP hD dN_addNode_11
set_option maxHeartbeats 4000000 in
set_option maxRecDepth 100000 in
theorem cn_len (l : Launch) (D : va_G) (τ : Nat → ClassId) (n0 : Nat) (n1 : Nat) (N : Nat) (i : Nat) (j : Nat) (ar : Int32) (len : Nat → Int32) (hi : i < 24) (hj : j < 24) : kMi l D τ yN_lengthOf (kWs yN_lengthOf cN_lengthOf 3 (some .int)) { frames := 0, cells := 0, slots := 0, locals := 0 } [.ref n0, .int (nI i), .int (nI j)] [(n0, .inr (2, [.int (nI N), .int ar, .ref n1])), (n1, .inl (τ 0, 576, .inl len))] (len (i * 24 + j)) [(n0, .inr (2, [.int (nI N), .int ar, .ref n1])), (n1, .inl (τ 0, 576, .inl len))] := by
  intro sz
  refine Met.ofW (cc := cN_lengthOf) (maxL := 3) (ret := (some .int)) (by decide) rfl ?_
  intro p e s m args below meth c s₁ B hml hv
  obtain ⟨rfl, hsz, hP, hK, hD0⟩ := hv
  have hx := B.exec
  have hb := B.bytes
  have hr := B.returns
  have hts := fun w (hw : w ∈ kTbl) => atoms_spec (ws := (kWs yN_lengthOf cN_lengthOf 3 (some .int))) B.pre w (List.mem_cons_of_mem _ hw)
  have hown : s.vm.findClass RN = some m.cls := findClass_of_methodNamed B.named
  have hlocks := B.notSynchronized
  subst hsz
  have hD := hD0.self (sz := s.heap.size)
  generalize hAe : va_A [(n0, .inr (2, [.int (nI N), .int ar, .ref n1])), (n1, .inl (τ 0, 576, .inl len))] s.heap.size = A at hD ⊢
  have hA : ∀ q : Nat, s.heap.size ≤ q → A q := fun q h => by rw [← hAe]; exact Or.inr h
  have hS : va_S A s.heap s.heap [] := va_S.rf
  have hP : va_P D vwCl [(n0, .inr (2, [.int (nI N), .int ar, .ref n1])), (n1, .inl (τ 0, 576, .inl len))] s.heap := hP
  have hl := lv_entry ([.ref n0, .int (nI i), .int (nI j)]) (n := 3) (Nat.le_of_ble_eq_true rfl)
  rw [lg_entry_eq]
  generalize (lg_sl ([.ref n0, .int (nI i), .int (nI j)]) ++ List.replicate (3 - (lg_sl ([.ref n0, .int (nI i), .int (nI j)])).length) Slot.unset).toArray = ls at hl ⊢
  have hl : lv_has ls 3 [(0, .ref n0), (1, .int (nI i)), (2, .int (nI j))] := hl
  skip
  refine lv_aload_n hx hb dN_lengthOf_0 rfl (lv_at hl 0 rfl) ?_
  refine va_get (D := D) (ci := 2) (v := .ref n1) (C := RN) (T := TN) (N := 3) hx hb hts iN hown hK hP 0 rfl rfl 2 (by decide) (hts _ w_31) (fun _ h9 => h9) rfl dN_lengthOf_1 ?_
  refine lv_iload_n hx hb dN_lengthOf_4 rfl (lv_at hl 1 rfl) ?_
  refine lv_bipush (v := 24) hx hb dN_lengthOf_5 (by decide) ?_
  refine lv_imul hx hb dN_lengthOf_7 ?_
  refine lv_iload_n hx hb dN_lengthOf_8 rfl (lv_at hl 2 rfl) ?_
  refine lv_iadd hx hb dN_lengthOf_9 ?_
  refine lv_topi (fun y_ ey_ => ?_)
  obtain rfl : y_ = nI (i * 24 + j) := ey_.trans (k_ix _ _)
  refine ka_iald (k := i * 24 + j) hx hb hK hP 1 0 rfl rfl (by omega) (by omega) rfl dN_lengthOf_10 ?_
  exact k_iret hx hb hr hlocks hK hS rfl hP hD dN_lengthOf_11
set_option maxHeartbeats 4000000 in
set_option maxRecDepth 100000 in
theorem cn_set (l : Launch) (D : va_G) (τ : Nat → ClassId) (n0 : Nat) (n1 : Nat) (N : Nat) (i : Nat) (j : Nat) (ar : Int32) (x : Int32) (len : Nat → Int32) (hi : i < 24) (hj : j < 24) : kMv l D τ yN_setLength (kWs yN_setLength cN_setLength 5 none) { frames := 1, cells := 0, slots := 0, locals := 22 } [.ref n0, .int (nI i), .int (nI j), .int x] [(n0, .inr (2, [.int (nI N), .int ar, .ref n1])), (n1, .inl (τ 0, 576, .inl len))] [(n0, .inr (2, [.int (nI N), .int (kArcs ar (len (i * 24 + j)) x), .ref n1])), (n1, .inl (τ 0, 576, .inl (upd len (i * 24 + j) x)))] := by
  intro sz
  refine Met.ofW (cc := cN_setLength) (maxL := 5) (ret := none) (by decide) rfl ?_
  intro p e s m args below meth c s₁ B hml hv
  obtain ⟨rfl, hsz, hP, hK, hD0⟩ := hv
  have hx := B.exec
  have hb := B.bytes
  have hr := B.returns
  have hts := fun w (hw : w ∈ kTbl) => atoms_spec (ws := (kWs yN_setLength cN_setLength 5 none)) B.pre w (List.mem_cons_of_mem _ hw)
  have hown : s.vm.findClass RN = some m.cls := findClass_of_methodNamed B.named
  have hlocks := B.notSynchronized
  subst hsz
  have hD := hD0.self (sz := s.heap.size)
  generalize hAe : va_A [(n0, .inr (2, [.int (nI N), .int ar, .ref n1])), (n1, .inl (τ 0, 576, .inl len))] s.heap.size = A at hD ⊢
  have hA : ∀ q : Nat, s.heap.size ≤ q → A q := fun q h => by rw [← hAe]; exact Or.inr h
  have hS : va_S A s.heap s.heap [] := va_S.rf
  have hP : va_P D vwCl [(n0, .inr (2, [.int (nI N), .int ar, .ref n1])), (n1, .inl (τ 0, 576, .inl len))] s.heap := hP
  have hl := lv_entry ([.ref n0, .int (nI i), .int (nI j), .int x]) (n := 5) (Nat.le_of_ble_eq_true rfl)
  rw [lg_entry_eq]
  generalize (lg_sl ([.ref n0, .int (nI i), .int (nI j), .int x]) ++ List.replicate (5 - (lg_sl ([.ref n0, .int (nI i), .int (nI j), .int x])).length) Slot.unset).toArray = ls at hl ⊢
  have hl : lv_has ls 5 [(0, .ref n0), (1, .int (nI i)), (2, .int (nI j)), (3, .int x)] := hl
  skip
  refine lv_aload_n hx hb dN_setLength_0 rfl (lv_at hl 0 rfl) ?_
  refine lv_iload_n hx hb dN_setLength_1 rfl (lv_at hl 1 rfl) ?_
  refine lv_iload_n hx hb dN_setLength_2 rfl (lv_at hl 2 rfl) ?_
  refine kc_Vi (As := [.int (nI i), .int (nI j)]) (rest := []) (wr := []) (W1 := [(n0, .inr (2, [.int (nI N), .int ar, .ref n1])), (n1, .inl (τ 0, 576, .inl len))]) ⟨hx, hb, hml, hown, hts⟩ (cn_len l D τ n0 n1 N i j ar len (by first | assumption | omega) (by first | assumption | omega)) (kcwV hts qN_lengthOf w_249 rfl rfl ⟨Nat.le_of_ble_eq_true rfl, Nat.le_of_ble_eq_true rfl⟩) hK hP hD hS hA [0, 1] [] [0, 1] rfl rfl (by decide) (by decide) (by decide) rfl rfl rfl (by decide) hl.1 rfl rfl (Nat.le_of_ble_eq_true rfl) ⟨Nat.zero_le _, Nat.zero_le _⟩ dN_setLength_3 (fun H locs hP hD hS => ?_)
  refine lv_istore (lv' := [(4, .int (len (i * 24 + j))), (0, .ref n0), (1, .int (nI i)), (2, .int (nI j)), (3, .int x)]) hx hb dN_setLength_6 hl (by decide) rfl (fun ls hl => ?_)
  refine lv_iload hx hb dN_setLength_8 (lv_at hl 0 rfl) ?_
  refine lv_ldc (v := (-1000000)) hx hb hown (hts _ w_22) dN_setLength_10 ?_
  refine lv_icmp_ne (tgt := 31) hx hb dN_setLength_12 (by decide) (fun c_12 => ?_) (fun c_12 => ?_)
  · skip
    refine lv_iload hx hb dN_setLength_31 (lv_at hl 0 rfl) ?_
    refine lv_ldc (v := (-1000000)) hx hb hown (hts _ w_22) dN_setLength_33 ?_
    refine lv_icmp_eq (tgt := 54) hx hb dN_setLength_35 (by decide) (fun c_35 => absurd c_35 c_12) (fun c_35 => ?_)
    refine lv_iload_n hx hb dN_setLength_38 rfl (lv_at hl 4 rfl) ?_
    refine lv_ldc (v := (-1000000)) hx hb hown (hts _ w_22) dN_setLength_39 ?_
    refine lv_icmp_ne (tgt := 54) hx hb dN_setLength_41 (by decide) (fun c_41 => ?_) (fun c_41 => ?_)
    · skip
      refine lv_aload_n hx hb dN_setLength_54 rfl (lv_at hl 1 rfl) ?_
      refine va_get (D := D) (ci := 2) (v := .ref n1) (C := RN) (T := TN) (N := 3) hx hb hts iN hown hK hP 0 rfl rfl 2 (by decide) (hts _ w_31) (fun _ h9 => h9) rfl dN_setLength_55 ?_
      refine lv_iload_n hx hb dN_setLength_58 rfl (lv_at hl 2 rfl) ?_
      refine lv_bipush (v := 24) hx hb dN_setLength_59 (by decide) ?_
      refine lv_imul hx hb dN_setLength_61 ?_
      refine lv_iload_n hx hb dN_setLength_62 rfl (lv_at hl 3 rfl) ?_
      refine lv_iadd hx hb dN_setLength_63 ?_
      refine lv_topi (fun y_ ey_ => ?_)
      obtain rfl : y_ = nI (i * 24 + j) := ey_.trans (k_ix _ _)
      refine lv_iload_n hx hb dN_setLength_64 rfl (lv_at hl 4 rfl) ?_
      refine ka_iast (k := i * 24 + j) hx hb hK hP hD hS 1 0 rfl rfl (by omega) (by omega) rfl dN_setLength_65 (fun H locs hP hD hS => ?_)
      have hP : va_P D vwCl [(n0, .inr (2, [.int (nI N), .int ar, .ref n1])), (n1, .inl (τ 0, 576, .inl (upd len (i * 24 + j) x)))] H := hP
      have hD : va_D A [(n0, .inr (2, [.int (nI N), .int ar, .ref n1])), (n1, .inl (τ 0, 576, .inl (upd len (i * 24 + j) x)))] := hD
      have e_ : kArcs ar (len (i * 24 + j)) x = ar := by simp [kArcs, kIf, c_12, c_35, c_41]
      exact k_vret hx hb hr hlocks hK hS (by rw [e_]; exact hP) (by rw [e_]; exact hD) dN_setLength_66
    · skip
      refine lv_aload_n hx hb dN_setLength_44 rfl (lv_at hl 1 rfl) ?_
      refine lv_dup hx hb dN_setLength_45 rfl ?_
      refine va_get (D := D) (ci := 2) (v := .int ar) (C := RN) (T := TN) (N := 3) hx hb hts iN hown hK hP 0 rfl rfl 1 (by decide) (hts _ w_29) (fun _ h9 => h9) rfl dN_setLength_46 ?_
      refine lv_iconst (v := 1) hx hb dN_setLength_49 (by decide) ?_
      refine lv_isub hx hb dN_setLength_50 ?_
      refine va_put (D := D) (ci := 2) (v := .int (ar - 1)) (ty := .int) (C := RN) (T := TN) (N := 3) hx hb hts iN tyN tyN_ok nmN hown hK hP hD hS 0 rfl rfl 1 (by decide) (hts _ w_29) (fun _ h9 => h9) rfl (by decide +kernel) rfl rfl (Nat.le_of_ble_eq_true rfl) dN_setLength_51 (fun H locs hP hD hS => ?_)
      have hP : va_P D vwCl [(n0, .inr (2, [.int (nI N), .int (ar - 1), .ref n1])), (n1, .inl (τ 0, 576, .inl len))] H := hP
      have hD : va_D A [(n0, .inr (2, [.int (nI N), .int (ar - 1), .ref n1])), (n1, .inl (τ 0, 576, .inl len))] := hD
      refine lv_aload_n hx hb dN_setLength_54 rfl (lv_at hl 1 rfl) ?_
      refine va_get (D := D) (ci := 2) (v := .ref n1) (C := RN) (T := TN) (N := 3) hx hb hts iN hown hK hP 0 rfl rfl 2 (by decide) (hts _ w_31) (fun _ h9 => h9) rfl dN_setLength_55 ?_
      refine lv_iload_n hx hb dN_setLength_58 rfl (lv_at hl 2 rfl) ?_
      refine lv_bipush (v := 24) hx hb dN_setLength_59 (by decide) ?_
      refine lv_imul hx hb dN_setLength_61 ?_
      refine lv_iload_n hx hb dN_setLength_62 rfl (lv_at hl 3 rfl) ?_
      refine lv_iadd hx hb dN_setLength_63 ?_
      refine lv_topi (fun y_ ey_ => ?_)
      obtain rfl : y_ = nI (i * 24 + j) := ey_.trans (k_ix _ _)
      refine lv_iload_n hx hb dN_setLength_64 rfl (lv_at hl 4 rfl) ?_
      refine ka_iast (k := i * 24 + j) hx hb hK hP hD hS 1 0 rfl rfl (by omega) (by omega) rfl dN_setLength_65 (fun H locs hP hD hS => ?_)
      have hP : va_P D vwCl [(n0, .inr (2, [.int (nI N), .int (ar - 1), .ref n1])), (n1, .inl (τ 0, 576, .inl (upd len (i * 24 + j) x)))] H := hP
      have hD : va_D A [(n0, .inr (2, [.int (nI N), .int (ar - 1), .ref n1])), (n1, .inl (τ 0, 576, .inl (upd len (i * 24 + j) x)))] := hD
      have e_ : kArcs ar (len (i * 24 + j)) x = ar - 1 := by simp [kArcs, kIf, c_12, c_35, c_41]
      exact k_vret hx hb hr hlocks hK hS (by rw [e_]; exact hP) (by rw [e_]; exact hD) dN_setLength_66
  · skip
    refine lv_iload_n hx hb dN_setLength_15 rfl (lv_at hl 4 rfl) ?_
    refine lv_ldc (v := (-1000000)) hx hb hown (hts _ w_22) dN_setLength_16 ?_
    refine lv_icmp_eq (tgt := 31) hx hb dN_setLength_18 (by decide) (fun c_18 => ?_) (fun c_18 => ?_)
    · skip
      refine lv_iload hx hb dN_setLength_31 (lv_at hl 0 rfl) ?_
      refine lv_ldc (v := (-1000000)) hx hb hown (hts _ w_22) dN_setLength_33 ?_
      refine lv_icmp_eq (tgt := 54) hx hb dN_setLength_35 (by decide) (fun c_35 => ?_) (fun c_35 => absurd c_12 c_35)
      refine lv_aload_n hx hb dN_setLength_54 rfl (lv_at hl 1 rfl) ?_
      refine va_get (D := D) (ci := 2) (v := .ref n1) (C := RN) (T := TN) (N := 3) hx hb hts iN hown hK hP 0 rfl rfl 2 (by decide) (hts _ w_31) (fun _ h9 => h9) rfl dN_setLength_55 ?_
      refine lv_iload_n hx hb dN_setLength_58 rfl (lv_at hl 2 rfl) ?_
      refine lv_bipush (v := 24) hx hb dN_setLength_59 (by decide) ?_
      refine lv_imul hx hb dN_setLength_61 ?_
      refine lv_iload_n hx hb dN_setLength_62 rfl (lv_at hl 3 rfl) ?_
      refine lv_iadd hx hb dN_setLength_63 ?_
      refine lv_topi (fun y_ ey_ => ?_)
      obtain rfl : y_ = nI (i * 24 + j) := ey_.trans (k_ix _ _)
      refine lv_iload_n hx hb dN_setLength_64 rfl (lv_at hl 4 rfl) ?_
      refine ka_iast (k := i * 24 + j) hx hb hK hP hD hS 1 0 rfl rfl (by omega) (by omega) rfl dN_setLength_65 (fun H locs hP hD hS => ?_)
      have hP : va_P D vwCl [(n0, .inr (2, [.int (nI N), .int ar, .ref n1])), (n1, .inl (τ 0, 576, .inl (upd len (i * 24 + j) x)))] H := hP
      have hD : va_D A [(n0, .inr (2, [.int (nI N), .int ar, .ref n1])), (n1, .inl (τ 0, 576, .inl (upd len (i * 24 + j) x)))] := hD
      have e_ : kArcs ar (len (i * 24 + j)) x = ar := by simp [kArcs, kIf, c_12, c_18, c_35]
      exact k_vret hx hb hr hlocks hK hS (by rw [e_]; exact hP) (by rw [e_]; exact hD) dN_setLength_66
    · skip
      refine lv_aload_n hx hb dN_setLength_21 rfl (lv_at hl 1 rfl) ?_
      refine lv_dup hx hb dN_setLength_22 rfl ?_
      refine va_get (D := D) (ci := 2) (v := .int ar) (C := RN) (T := TN) (N := 3) hx hb hts iN hown hK hP 0 rfl rfl 1 (by decide) (hts _ w_29) (fun _ h9 => h9) rfl dN_setLength_23 ?_
      refine lv_iconst (v := 1) hx hb dN_setLength_26 (by decide) ?_
      refine lv_iadd hx hb dN_setLength_27 ?_
      refine va_put (D := D) (ci := 2) (v := .int (ar + 1)) (ty := .int) (C := RN) (T := TN) (N := 3) hx hb hts iN tyN tyN_ok nmN hown hK hP hD hS 0 rfl rfl 1 (by decide) (hts _ w_29) (fun _ h9 => h9) rfl (by decide +kernel) rfl rfl (Nat.le_of_ble_eq_true rfl) dN_setLength_28 (fun H locs hP hD hS => ?_)
      have hP : va_P D vwCl [(n0, .inr (2, [.int (nI N), .int (ar + 1), .ref n1])), (n1, .inl (τ 0, 576, .inl len))] H := hP
      have hD : va_D A [(n0, .inr (2, [.int (nI N), .int (ar + 1), .ref n1])), (n1, .inl (τ 0, 576, .inl len))] := hD
      refine lv_iload hx hb dN_setLength_31 (lv_at hl 0 rfl) ?_
      refine lv_ldc (v := (-1000000)) hx hb hown (hts _ w_22) dN_setLength_33 ?_
      refine lv_icmp_eq (tgt := 54) hx hb dN_setLength_35 (by decide) (fun c_35 => ?_) (fun c_35 => absurd c_12 c_35)
      refine lv_aload_n hx hb dN_setLength_54 rfl (lv_at hl 1 rfl) ?_
      refine va_get (D := D) (ci := 2) (v := .ref n1) (C := RN) (T := TN) (N := 3) hx hb hts iN hown hK hP 0 rfl rfl 2 (by decide) (hts _ w_31) (fun _ h9 => h9) rfl dN_setLength_55 ?_
      refine lv_iload_n hx hb dN_setLength_58 rfl (lv_at hl 2 rfl) ?_
      refine lv_bipush (v := 24) hx hb dN_setLength_59 (by decide) ?_
      refine lv_imul hx hb dN_setLength_61 ?_
      refine lv_iload_n hx hb dN_setLength_62 rfl (lv_at hl 3 rfl) ?_
      refine lv_iadd hx hb dN_setLength_63 ?_
      refine lv_topi (fun y_ ey_ => ?_)
      obtain rfl : y_ = nI (i * 24 + j) := ey_.trans (k_ix _ _)
      refine lv_iload_n hx hb dN_setLength_64 rfl (lv_at hl 4 rfl) ?_
      refine ka_iast (k := i * 24 + j) hx hb hK hP hD hS 1 0 rfl rfl (by omega) (by omega) rfl dN_setLength_65 (fun H locs hP hD hS => ?_)
      have hP : va_P D vwCl [(n0, .inr (2, [.int (nI N), .int (ar + 1), .ref n1])), (n1, .inl (τ 0, 576, .inl (upd len (i * 24 + j) x)))] H := hP
      have hD : va_D A [(n0, .inr (2, [.int (nI N), .int (ar + 1), .ref n1])), (n1, .inl (τ 0, 576, .inl (upd len (i * 24 + j) x)))] := hD
      have e_ : kArcs ar (len (i * 24 + j)) x = ar + 1 := by simp [kArcs, kIf, c_12, c_18, c_35]
      exact k_vret hx hb hr hlocks hK hS (by rw [e_]; exact hP) (by rw [e_]; exact hD) dN_setLength_66
