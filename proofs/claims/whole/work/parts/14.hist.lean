set_option maxHeartbeats 4000000 in
set_option maxRecDepth 100000 in
theorem ch_slot (l : Launch) (D : va_G) (τ : Nat → ClassId) (g0 : Nat) (g1 : Nat) (g2 : Nat) (g3 : Nat) (g4 : Nat) (K : Nat) (O : Nat) (hKk : K ≤ 40) (hOo : O < 41) : kMi l D τ yH_openSlot (kWs yH_openSlot cH_openSlot 1 (some .int)) { frames := 0, cells := 0, slots := 0, locals := 0 } [.ref g0] [(g0, .inr (0, [.int (nI K), .int (nI O), .ref g1, .ref g2, .ref g3, .ref g4]))] (nI ((O + K) % 41)) [(g0, .inr (0, [.int (nI K), .int (nI O), .ref g1, .ref g2, .ref g3, .ref g4]))] := by
  intro sz
  refine Met.ofW (cc := cH_openSlot) (maxL := 1) (ret := (some .int)) (by decide) rfl ?_
  intro p e s m args below meth c s₁ B hml hv
  obtain ⟨rfl, hsz, hP, hK, hD0⟩ := hv
  have hx := B.exec
  have hb := B.bytes
  have hr := B.returns
  have hts := fun w (hw : w ∈ kTbl) => atoms_spec (ws := (kWs yH_openSlot cH_openSlot 1 (some .int))) B.pre w (List.mem_cons_of_mem _ hw)
  have hown : s.vm.findClass RH = some m.cls := findClass_of_methodNamed B.named
  have hlocks := B.notSynchronized
  subst hsz
  have hD := hD0.self (sz := s.heap.size)
  generalize hAe : va_A [(g0, .inr (0, [.int (nI K), .int (nI O), .ref g1, .ref g2, .ref g3, .ref g4]))] s.heap.size = A at hD ⊢
  have hA : ∀ q : Nat, s.heap.size ≤ q → A q := fun q h => by rw [← hAe]; exact Or.inr h
  have hS : va_S A s.heap s.heap [] := va_S.rf
  have hP : va_P D vwCl [(g0, .inr (0, [.int (nI K), .int (nI O), .ref g1, .ref g2, .ref g3, .ref g4]))] s.heap := hP
  have hl := lv_entry ([.ref g0]) (n := 1) (Nat.le_of_ble_eq_true rfl)
  rw [lg_entry_eq]
  generalize (lg_sl ([.ref g0]) ++ List.replicate (1 - (lg_sl ([.ref g0])).length) Slot.unset).toArray = ls at hl ⊢
  have hl : lv_has ls 1 [(0, .ref g0)] := hl
  skip
  refine lv_aload_n hx hb dH_openSlot_0 rfl (lv_at hl 0 rfl) ?_
  refine va_get (D := D) (ci := 0) (v := .int (nI O)) (C := RH) (T := TH) (N := 6) hx hb hts iH hown hK hP 0 rfl rfl 1 (by decide) (hts _ w_48) (fun _ h9 => h9) rfl dH_openSlot_1 ?_
  refine lv_aload_n hx hb dH_openSlot_4 rfl (lv_at hl 0 rfl) ?_
  refine va_get (D := D) (ci := 0) (v := .int (nI K)) (C := RH) (T := TH) (N := 6) hx hb hts iH hown hK hP 0 rfl rfl 0 (by decide) (hts _ w_46) (fun _ h9 => h9) rfl dH_openSlot_5 ?_
  refine lv_iadd hx hb dH_openSlot_8 ?_
  refine lv_topi (fun y_ ey_ => ?_)
  obtain rfl : y_ = nI (O + K) := ey_.trans (nI_add O K)
  refine lv_bipush (v := 41) hx hb dH_openSlot_9 (by decide) ?_
  refine lv_irem hx hb dH_openSlot_11 (by decide) ?_
  refine lv_topi (fun y_ ey_ => ?_)
  obtain rfl : y_ = nI ((O + K) % 41) := ey_.trans (pk_rem (a := O + K) (d := 41) (by omega) (by omega) (by omega))
  exact k_iret hx hb hr hlocks hK hS rfl hP hD dH_openSlot_12
set_option maxHeartbeats 4000000 in
set_option maxRecDepth 100000 in
theorem ch_open (l : Launch) (D : va_G) (τ : Nat → ClassId) (g0 : Nat) (g1 : Nat) (g2 : Nat) (g3 : Nat) (g4 : Nat) (K : Nat) (O : Nat) (sz : Nat → Int32) (hKk : K ≤ 40) (hOo : O < 41) : kMi l D τ yH_openChanges (kWs yH_openChanges cH_openChanges 1 (some .int)) { frames := 1, cells := 0, slots := 0, locals := 20 } [.ref g0] [(g0, .inr (0, [.int (nI K), .int (nI O), .ref g1, .ref g2, .ref g3, .ref g4])), (g1, .inl (τ 0, 41, .inl sz))] (sz ((O + K) % 41)) [(g0, .inr (0, [.int (nI K), .int (nI O), .ref g1, .ref g2, .ref g3, .ref g4])), (g1, .inl (τ 0, 41, .inl sz))] := by
  intro sz
  refine Met.ofW (cc := cH_openChanges) (maxL := 1) (ret := (some .int)) (by decide) rfl ?_
  intro p e s m args below meth c s₁ B hml hv
  obtain ⟨rfl, hsz, hP, hK, hD0⟩ := hv
  have hx := B.exec
  have hb := B.bytes
  have hr := B.returns
  have hts := fun w (hw : w ∈ kTbl) => atoms_spec (ws := (kWs yH_openChanges cH_openChanges 1 (some .int))) B.pre w (List.mem_cons_of_mem _ hw)
  have hown : s.vm.findClass RH = some m.cls := findClass_of_methodNamed B.named
  have hlocks := B.notSynchronized
  subst hsz
  have hD := hD0.self (sz := s.heap.size)
  generalize hAe : va_A [(g0, .inr (0, [.int (nI K), .int (nI O), .ref g1, .ref g2, .ref g3, .ref g4])), (g1, .inl (τ 0, 41, .inl sz))] s.heap.size = A at hD ⊢
  have hA : ∀ q : Nat, s.heap.size ≤ q → A q := fun q h => by rw [← hAe]; exact Or.inr h
  have hS : va_S A s.heap s.heap [] := va_S.rf
  have hP : va_P D vwCl [(g0, .inr (0, [.int (nI K), .int (nI O), .ref g1, .ref g2, .ref g3, .ref g4])), (g1, .inl (τ 0, 41, .inl sz))] s.heap := hP
  have hl := lv_entry ([.ref g0]) (n := 1) (Nat.le_of_ble_eq_true rfl)
  rw [lg_entry_eq]
  generalize (lg_sl ([.ref g0]) ++ List.replicate (1 - (lg_sl ([.ref g0])).length) Slot.unset).toArray = ls at hl ⊢
  have hl : lv_has ls 1 [(0, .ref g0)] := hl
  skip
  refine lv_aload_n hx hb dH_openChanges_0 rfl (lv_at hl 0 rfl) ?_
  refine va_get (D := D) (ci := 0) (v := .ref g1) (C := RH) (T := TH) (N := 6) hx hb hts iH hown hK hP 0 rfl rfl 2 (by decide) (hts _ w_49) (fun _ h9 => h9) rfl dH_openChanges_1 ?_
  refine lv_aload_n hx hb dH_openChanges_4 rfl (lv_at hl 0 rfl) ?_
  refine kc_Vi (As := []) (rest := [.ref g1]) (wr := [(g1, .inl (τ 0, 41, .inl sz))]) (W1 := [(g0, .inr (0, [.int (nI K), .int (nI O), .ref g1, .ref g2, .ref g3, .ref g4])), (g1, .inl (τ 0, 41, .inl sz))]) ⟨hx, hb, hml, hown, hts⟩ (ch_slot l D τ g0 g1 g2 g3 g4 K O (by first | assumption | omega) (by first | assumption | omega)) (kcwV hts qH_openSlot w_213 rfl rfl ⟨Nat.le_of_ble_eq_true rfl, Nat.le_of_ble_eq_true rfl⟩) hK hP hD hS hA [0] [1] [1, 0] rfl rfl (by decide) (by decide) (by decide) rfl rfl rfl (by decide) hl.1 rfl rfl (Nat.le_of_ble_eq_true rfl) ⟨Nat.zero_le _, Nat.zero_le _⟩ dH_openChanges_5 (fun H locs hP hD hS => ?_)
  refine ka_iald (k := (O + K) % 41) hx hb hK hP 1 0 rfl rfl (by omega) (by omega) rfl dH_openChanges_8 ?_
  exact k_iret hx hb hr hlocks hK hS rfl hP hD dH_openChanges_9
set_option maxHeartbeats 4000000 in
set_option maxRecDepth 100000 in
theorem ch_note (l : Launch) (D : va_G) (τ : Nat → ClassId) (g0 : Nat) (g1 : Nat) (g2 : Nat) (g3 : Nat) (g4 : Nat) (K : Nat) (O : Nat) (sz : Nat → Int32) (bg : Nat → Int32) (en : Nat → Int32) (ln : Nat → Int32) (i : Nat) (j : Nat) (S : Nat) (x : Int32) (hKk : K ≤ 40) (hOo : O < 41) (hS30 : S < 30) (hSs : sz ((O + K) % 41) = nI S) : kMv l D τ yH_note (kWs yH_note cH_note 6 none) { frames := 1, cells := 0, slots := 0, locals := 20 } [.ref g0, .int (nI i), .int (nI j), .int x] [(g0, .inr (0, [.int (nI K), .int (nI O), .ref g1, .ref g2, .ref g3, .ref g4])), (g1, .inl (τ 0, 41, .inl sz)), (g2, .inl (τ 0, 1230, .inl bg)), (g3, .inl (τ 0, 1230, .inl en)), (g4, .inl (τ 0, 1230, .inl ln))] [(g0, .inr (0, [.int (nI K), .int (nI O), .ref g1, .ref g2, .ref g3, .ref g4])), (g1, .inl (τ 0, 41, .inl (upd sz ((O + K) % 41) (nI (S + 1))))), (g2, .inl (τ 0, 1230, .inl (upd bg ((O + K) % 41 * 30 + S) (nI i)))), (g3, .inl (τ 0, 1230, .inl (upd en ((O + K) % 41 * 30 + S) (nI j)))), (g4, .inl (τ 0, 1230, .inl (upd ln ((O + K) % 41 * 30 + S) x)))] := by
  intro sz
  refine Met.ofW (cc := cH_note) (maxL := 6) (ret := none) (by decide) rfl ?_
  intro p e s m args below meth c s₁ B hml hv
  obtain ⟨rfl, hsz, hP, hK, hD0⟩ := hv
  have hx := B.exec
  have hb := B.bytes
  have hr := B.returns
  have hts := fun w (hw : w ∈ kTbl) => atoms_spec (ws := (kWs yH_note cH_note 6 none)) B.pre w (List.mem_cons_of_mem _ hw)
  have hown : s.vm.findClass RH = some m.cls := findClass_of_methodNamed B.named
  have hlocks := B.notSynchronized
  subst hsz
  have hD := hD0.self (sz := s.heap.size)
  generalize hAe : va_A [(g0, .inr (0, [.int (nI K), .int (nI O), .ref g1, .ref g2, .ref g3, .ref g4])), (g1, .inl (τ 0, 41, .inl sz)), (g2, .inl (τ 0, 1230, .inl bg)), (g3, .inl (τ 0, 1230, .inl en)), (g4, .inl (τ 0, 1230, .inl ln))] s.heap.size = A at hD ⊢
  have hA : ∀ q : Nat, s.heap.size ≤ q → A q := fun q h => by rw [← hAe]; exact Or.inr h
  have hS : va_S A s.heap s.heap [] := va_S.rf
  have hP : va_P D vwCl [(g0, .inr (0, [.int (nI K), .int (nI O), .ref g1, .ref g2, .ref g3, .ref g4])), (g1, .inl (τ 0, 41, .inl sz)), (g2, .inl (τ 0, 1230, .inl bg)), (g3, .inl (τ 0, 1230, .inl en)), (g4, .inl (τ 0, 1230, .inl ln))] s.heap := hP
  have hl := lv_entry ([.ref g0, .int (nI i), .int (nI j), .int x]) (n := 6) (Nat.le_of_ble_eq_true rfl)
  rw [lg_entry_eq]
  generalize (lg_sl ([.ref g0, .int (nI i), .int (nI j), .int x]) ++ List.replicate (6 - (lg_sl ([.ref g0, .int (nI i), .int (nI j), .int x])).length) Slot.unset).toArray = ls at hl ⊢
  have hl : lv_has ls 6 [(0, .ref g0), (1, .int (nI i)), (2, .int (nI j)), (3, .int x)] := hl
  skip
  refine lv_aload_n hx hb dH_note_0 rfl (lv_at hl 0 rfl) ?_
  refine kc_Vi (As := []) (rest := []) (wr := [(g1, .inl (τ 0, 41, .inl sz)), (g2, .inl (τ 0, 1230, .inl bg)), (g3, .inl (τ 0, 1230, .inl en)), (g4, .inl (τ 0, 1230, .inl ln))]) (W1 := [(g0, .inr (0, [.int (nI K), .int (nI O), .ref g1, .ref g2, .ref g3, .ref g4])), (g1, .inl (τ 0, 41, .inl sz)), (g2, .inl (τ 0, 1230, .inl bg)), (g3, .inl (τ 0, 1230, .inl en)), (g4, .inl (τ 0, 1230, .inl ln))]) ⟨hx, hb, hml, hown, hts⟩ (ch_slot l D τ g0 g1 g2 g3 g4 K O (by first | assumption | omega) (by first | assumption | omega)) (kcwV hts qH_openSlot w_213 rfl rfl ⟨Nat.le_of_ble_eq_true rfl, Nat.le_of_ble_eq_true rfl⟩) hK hP hD hS hA [0] [1, 2, 3, 4] [4, 0, 1, 2, 3] rfl rfl (by decide) (by decide) (by decide) rfl rfl rfl (by decide) hl.1 rfl rfl (Nat.le_of_ble_eq_true rfl) ⟨Nat.zero_le _, Nat.zero_le _⟩ dH_note_1 (fun H locs hP hD hS => ?_)
  refine lv_istore (lv' := [(4, .int (nI ((O + K) % 41))), (0, .ref g0), (1, .int (nI i)), (2, .int (nI j)), (3, .int x)]) hx hb dH_note_4 hl (by decide) rfl (fun ls hl => ?_)
  refine lv_aload_n hx hb dH_note_6 rfl (lv_at hl 1 rfl) ?_
  refine va_get (D := D) (ci := 0) (v := .ref g1) (C := RH) (T := TH) (N := 6) hx hb hts iH hown hK hP 0 rfl rfl 2 (by decide) (hts _ w_49) (fun _ h9 => h9) rfl dH_note_7 ?_
  refine lv_iload hx hb dH_note_10 (lv_at hl 0 rfl) ?_
  refine ka_iald (k := (O + K) % 41) hx hb hK hP 1 0 rfl rfl (by omega) (by omega) rfl dH_note_12 ?_
  refine lv_topi (fun y_ ey_ => ?_)
  obtain rfl : y_ = nI S := ey_.trans hSs
  refine lv_bipush (v := 30) hx hb dH_note_13 (by decide) ?_
  refine lv_icmp_lt (tgt := 19) hx hb dH_note_15 (by decide) (fun c_15 => ?_) (fun c_15 => absurd (nI_lt (b := 30) hS30 (by decide)) c_15)
  refine lv_iload hx hb dH_note_19 (lv_at hl 0 rfl) ?_
  refine lv_bipush (v := 30) hx hb dH_note_21 (by decide) ?_
  refine lv_imul hx hb dH_note_23 ?_
  refine lv_topi (fun y_ ey_ => ?_)
  obtain rfl : y_ = nI (((O + K) % 41) * 30) := ey_.trans (pk_mul _ 30)
  refine lv_aload_n hx hb dH_note_24 rfl (lv_at hl 1 rfl) ?_
  refine va_get (D := D) (ci := 0) (v := .ref g1) (C := RH) (T := TH) (N := 6) hx hb hts iH hown hK hP 0 rfl rfl 2 (by decide) (hts _ w_49) (fun _ h9 => h9) rfl dH_note_25 ?_
  refine lv_iload hx hb dH_note_28 (lv_at hl 0 rfl) ?_
  refine ka_iald (k := (O + K) % 41) hx hb hK hP 1 0 rfl rfl (by omega) (by omega) rfl dH_note_30 ?_
  refine lv_topi (fun y_ ey_ => ?_)
  obtain rfl : y_ = nI S := ey_.trans hSs
  refine lv_iadd hx hb dH_note_31 ?_
  refine lv_topi (fun y_ ey_ => ?_)
  obtain rfl : y_ = nI ((O + K) % 41 * 30 + S) := ey_.trans (nI_add _ _)
  refine lv_istore (lv' := [(5, .int (nI ((O + K) % 41 * 30 + S))), (4, .int (nI ((O + K) % 41))), (0, .ref g0), (1, .int (nI i)), (2, .int (nI j)), (3, .int x)]) hx hb dH_note_32 hl (by decide) rfl (fun ls hl => ?_)
  refine lv_aload_n hx hb dH_note_34 rfl (lv_at hl 2 rfl) ?_
  refine va_get (D := D) (ci := 0) (v := .ref g2) (C := RH) (T := TH) (N := 6) hx hb hts iH hown hK hP 0 rfl rfl 3 (by decide) (hts _ w_50) (fun _ h9 => h9) rfl dH_note_35 ?_
  refine lv_iload hx hb dH_note_38 (lv_at hl 0 rfl) ?_
  refine lv_iload_n hx hb dH_note_40 rfl (lv_at hl 3 rfl) ?_
  refine ka_iast (k := (O + K) % 41 * 30 + S) hx hb hK hP hD hS 2 0 rfl rfl (by omega) (by omega) rfl dH_note_41 (fun H locs hP hD hS => ?_)
  have hP : va_P D vwCl [(g0, .inr (0, [.int (nI K), .int (nI O), .ref g1, .ref g2, .ref g3, .ref g4])), (g1, .inl (τ 0, 41, .inl sz)), (g2, .inl (τ 0, 1230, .inl (upd bg ((O + K) % 41 * 30 + S) (nI i)))), (g3, .inl (τ 0, 1230, .inl en)), (g4, .inl (τ 0, 1230, .inl ln))] H := hP
  have hD : va_D A [(g0, .inr (0, [.int (nI K), .int (nI O), .ref g1, .ref g2, .ref g3, .ref g4])), (g1, .inl (τ 0, 41, .inl sz)), (g2, .inl (τ 0, 1230, .inl (upd bg ((O + K) % 41 * 30 + S) (nI i)))), (g3, .inl (τ 0, 1230, .inl en)), (g4, .inl (τ 0, 1230, .inl ln))] := hD
  refine lv_aload_n hx hb dH_note_42 rfl (lv_at hl 2 rfl) ?_
  refine va_get (D := D) (ci := 0) (v := .ref g3) (C := RH) (T := TH) (N := 6) hx hb hts iH hown hK hP 0 rfl rfl 4 (by decide) (hts _ w_51) (fun _ h9 => h9) rfl dH_note_43 ?_
  refine lv_iload hx hb dH_note_46 (lv_at hl 0 rfl) ?_
  refine lv_iload_n hx hb dH_note_48 rfl (lv_at hl 4 rfl) ?_
  refine ka_iast (k := (O + K) % 41 * 30 + S) hx hb hK hP hD hS 3 0 rfl rfl (by omega) (by omega) rfl dH_note_49 (fun H locs hP hD hS => ?_)
  have hP : va_P D vwCl [(g0, .inr (0, [.int (nI K), .int (nI O), .ref g1, .ref g2, .ref g3, .ref g4])), (g1, .inl (τ 0, 41, .inl sz)), (g2, .inl (τ 0, 1230, .inl (upd bg ((O + K) % 41 * 30 + S) (nI i)))), (g3, .inl (τ 0, 1230, .inl (upd en ((O + K) % 41 * 30 + S) (nI j)))), (g4, .inl (τ 0, 1230, .inl ln))] H := hP
  have hD : va_D A [(g0, .inr (0, [.int (nI K), .int (nI O), .ref g1, .ref g2, .ref g3, .ref g4])), (g1, .inl (τ 0, 41, .inl sz)), (g2, .inl (τ 0, 1230, .inl (upd bg ((O + K) % 41 * 30 + S) (nI i)))), (g3, .inl (τ 0, 1230, .inl (upd en ((O + K) % 41 * 30 + S) (nI j)))), (g4, .inl (τ 0, 1230, .inl ln))] := hD
  refine lv_aload_n hx hb dH_note_50 rfl (lv_at hl 2 rfl) ?_
  refine va_get (D := D) (ci := 0) (v := .ref g4) (C := RH) (T := TH) (N := 6) hx hb hts iH hown hK hP 0 rfl rfl 5 (by decide) (hts _ w_52) (fun _ h9 => h9) rfl dH_note_51 ?_
  refine lv_iload hx hb dH_note_54 (lv_at hl 0 rfl) ?_
  refine lv_iload_n hx hb dH_note_56 rfl (lv_at hl 5 rfl) ?_
  refine ka_iast (k := (O + K) % 41 * 30 + S) hx hb hK hP hD hS 4 0 rfl rfl (by omega) (by omega) rfl dH_note_57 (fun H locs hP hD hS => ?_)
  have hP : va_P D vwCl [(g0, .inr (0, [.int (nI K), .int (nI O), .ref g1, .ref g2, .ref g3, .ref g4])), (g1, .inl (τ 0, 41, .inl sz)), (g2, .inl (τ 0, 1230, .inl (upd bg ((O + K) % 41 * 30 + S) (nI i)))), (g3, .inl (τ 0, 1230, .inl (upd en ((O + K) % 41 * 30 + S) (nI j)))), (g4, .inl (τ 0, 1230, .inl (upd ln ((O + K) % 41 * 30 + S) x)))] H := hP
  have hD : va_D A [(g0, .inr (0, [.int (nI K), .int (nI O), .ref g1, .ref g2, .ref g3, .ref g4])), (g1, .inl (τ 0, 41, .inl sz)), (g2, .inl (τ 0, 1230, .inl (upd bg ((O + K) % 41 * 30 + S) (nI i)))), (g3, .inl (τ 0, 1230, .inl (upd en ((O + K) % 41 * 30 + S) (nI j)))), (g4, .inl (τ 0, 1230, .inl (upd ln ((O + K) % 41 * 30 + S) x)))] := hD
  refine lv_aload_n hx hb dH_note_58 rfl (lv_at hl 2 rfl) ?_
  refine va_get (D := D) (ci := 0) (v := .ref g1) (C := RH) (T := TH) (N := 6) hx hb hts iH hown hK hP 0 rfl rfl 2 (by decide) (hts _ w_49) (fun _ h9 => h9) rfl dH_note_59 ?_
  refine lv_iload hx hb dH_note_62 (lv_at hl 1 rfl) ?_
  refine lv_dup2_11 hx hb dH_note_64 rfl rfl ?_
  refine ka_iald (k := (O + K) % 41) hx hb hK hP 1 0 rfl rfl (by omega) (by omega) rfl dH_note_65 ?_
  refine lv_topi (fun y_ ey_ => ?_)
  obtain rfl : y_ = nI S := ey_.trans hSs
  refine lv_iconst (v := 1) hx hb dH_note_66 (by decide) ?_
  refine lv_iadd hx hb dH_note_67 ?_
  refine lv_topi (fun y_ ey_ => ?_)
  obtain rfl : y_ = nI (S + 1) := ey_.trans (nI_1 S)
  refine ka_iast (k := (O + K) % 41) hx hb hK hP hD hS 1 0 rfl rfl (by omega) (by omega) rfl dH_note_68 (fun H locs hP hD hS => ?_)
  have hP : va_P D vwCl [(g0, .inr (0, [.int (nI K), .int (nI O), .ref g1, .ref g2, .ref g3, .ref g4])), (g1, .inl (τ 0, 41, .inl (upd sz ((O + K) % 41) (nI (S + 1))))), (g2, .inl (τ 0, 1230, .inl (upd bg ((O + K) % 41 * 30 + S) (nI i)))), (g3, .inl (τ 0, 1230, .inl (upd en ((O + K) % 41 * 30 + S) (nI j)))), (g4, .inl (τ 0, 1230, .inl (upd ln ((O + K) % 41 * 30 + S) x)))] H := hP
  have hD : va_D A [(g0, .inr (0, [.int (nI K), .int (nI O), .ref g1, .ref g2, .ref g3, .ref g4])), (g1, .inl (τ 0, 41, .inl (upd sz ((O + K) % 41) (nI (S + 1))))), (g2, .inl (τ 0, 1230, .inl (upd bg ((O + K) % 41 * 30 + S) (nI i)))), (g3, .inl (τ 0, 1230, .inl (upd en ((O + K) % 41 * 30 + S) (nI j)))), (g4, .inl (τ 0, 1230, .inl (upd ln ((O + K) % 41 * 30 + S) x)))] := hD
  exact k_vret hx hb hr hlocks hK hS hP hD dH_note_69
set_option maxHeartbeats 4000000 in
set_option maxRecDepth 100000 in
theorem ch_keep (l : Launch) (D : va_G) (τ : Nat → ClassId) (g0 : Nat) (g1 : Nat) (g2 : Nat) (g3 : Nat) (g4 : Nat) (K : Nat) (O : Nat) (sz : Nat → Int32) (bg : Nat → Int32) (en : Nat → Int32) (ln : Nat → Int32) (hKk : K ≤ 40) (hOo : O < 41) : kMv l D τ yH_keepOpen (kWs yH_keepOpen cH_keepOpen 1 none) { frames := 1, cells := 0, slots := 0, locals := 20 } [.ref g0] [(g0, .inr (0, [.int (nI K), .int (nI O), .ref g1, .ref g2, .ref g3, .ref g4])), (g1, .inl (τ 0, 41, .inl sz)), (g2, .inl (τ 0, 1230, .inl bg)), (g3, .inl (τ 0, 1230, .inl en)), (g4, .inl (τ 0, 1230, .inl ln))] [(g0, .inr (0, [.int (nI (kKk K)), .int (nI (kKo K O)), .ref g1, .ref g2, .ref g3, .ref g4])), (g1, .inl (τ 0, 41, .inl (upd sz ((kKo K O + kKk K) % 41) 0))), (g2, .inl (τ 0, 1230, .inl bg)), (g3, .inl (τ 0, 1230, .inl en)), (g4, .inl (τ 0, 1230, .inl ln))] := by
  intro sz
  refine Met.ofW (cc := cH_keepOpen) (maxL := 1) (ret := none) (by decide) rfl ?_
  intro p e s m args below meth c s₁ B hml hv
  obtain ⟨rfl, hsz, hP, hK, hD0⟩ := hv
  have hx := B.exec
  have hb := B.bytes
  have hr := B.returns
  have hts := fun w (hw : w ∈ kTbl) => atoms_spec (ws := (kWs yH_keepOpen cH_keepOpen 1 none)) B.pre w (List.mem_cons_of_mem _ hw)
  have hown : s.vm.findClass RH = some m.cls := findClass_of_methodNamed B.named
  have hlocks := B.notSynchronized
  subst hsz
  have hD := hD0.self (sz := s.heap.size)
  generalize hAe : va_A [(g0, .inr (0, [.int (nI K), .int (nI O), .ref g1, .ref g2, .ref g3, .ref g4])), (g1, .inl (τ 0, 41, .inl sz)), (g2, .inl (τ 0, 1230, .inl bg)), (g3, .inl (τ 0, 1230, .inl en)), (g4, .inl (τ 0, 1230, .inl ln))] s.heap.size = A at hD ⊢
  have hA : ∀ q : Nat, s.heap.size ≤ q → A q := fun q h => by rw [← hAe]; exact Or.inr h
  have hS : va_S A s.heap s.heap [] := va_S.rf
  have hP : va_P D vwCl [(g0, .inr (0, [.int (nI K), .int (nI O), .ref g1, .ref g2, .ref g3, .ref g4])), (g1, .inl (τ 0, 41, .inl sz)), (g2, .inl (τ 0, 1230, .inl bg)), (g3, .inl (τ 0, 1230, .inl en)), (g4, .inl (τ 0, 1230, .inl ln))] s.heap := hP
  have hl := lv_entry ([.ref g0]) (n := 1) (Nat.le_of_ble_eq_true rfl)
  rw [lg_entry_eq]
  generalize (lg_sl ([.ref g0]) ++ List.replicate (1 - (lg_sl ([.ref g0])).length) Slot.unset).toArray = ls at hl ⊢
  have hl : lv_has ls 1 [(0, .ref g0)] := hl
  skip
  refine lv_aload_n hx hb dH_keepOpen_0 rfl (lv_at hl 0 rfl) ?_
  refine va_get (D := D) (ci := 0) (v := .int (nI K)) (C := RH) (T := TH) (N := 6) hx hb hts iH hown hK hP 0 rfl rfl 0 (by decide) (hts _ w_46) (fun _ h9 => h9) rfl dH_keepOpen_1 ?_
  refine lv_bipush (v := 40) hx hb dH_keepOpen_4 (by decide) ?_
  refine lv_icmp_ge (tgt := 22) hx hb dH_keepOpen_6 (by decide) (fun c_6 => ?_) (fun c_6 => ?_)
  · skip
    have hK40 : 40 ≤ K := (nI_leI (a := 40) (b := K) (by decide) (by omega)).mp c_6
    refine lv_aload_n hx hb dH_keepOpen_22 rfl (lv_at hl 0 rfl) ?_
    refine lv_aload_n hx hb dH_keepOpen_23 rfl (lv_at hl 0 rfl) ?_
    refine va_get (D := D) (ci := 0) (v := .int (nI O)) (C := RH) (T := TH) (N := 6) hx hb hts iH hown hK hP 0 rfl rfl 1 (by decide) (hts _ w_48) (fun _ h9 => h9) rfl dH_keepOpen_24 ?_
    refine lv_iconst (v := 1) hx hb dH_keepOpen_27 (by decide) ?_
    refine lv_iadd hx hb dH_keepOpen_28 ?_
    refine lv_topi (fun y_ ey_ => ?_)
    obtain rfl : y_ = nI (O + 1) := ey_.trans (nI_1 O)
    refine lv_bipush (v := 41) hx hb dH_keepOpen_29 (by decide) ?_
    refine lv_irem hx hb dH_keepOpen_31 (by decide) ?_
    refine lv_topi (fun y_ ey_ => ?_)
    obtain rfl : y_ = nI ((O + 1) % 41) := ey_.trans (pk_rem (a := O + 1) (d := 41) (by omega) (by omega) (by omega))
    refine va_put (D := D) (ci := 0) (v := .int (nI ((O + 1) % 41))) (ty := .int) (C := RH) (T := TH) (N := 6) hx hb hts iH tyH tyH_ok nmH hown hK hP hD hS 0 rfl rfl 1 (by decide) (hts _ w_48) (fun _ h9 => h9) rfl (by decide +kernel) rfl rfl (Nat.le_of_ble_eq_true rfl) dH_keepOpen_32 (fun H locs hP hD hS => ?_)
    have hP : va_P D vwCl [(g0, .inr (0, [.int (nI K), .int (nI ((O + 1) % 41)), .ref g1, .ref g2, .ref g3, .ref g4])), (g1, .inl (τ 0, 41, .inl sz)), (g2, .inl (τ 0, 1230, .inl bg)), (g3, .inl (τ 0, 1230, .inl en)), (g4, .inl (τ 0, 1230, .inl ln))] H := hP
    have hD : va_D A [(g0, .inr (0, [.int (nI K), .int (nI ((O + 1) % 41)), .ref g1, .ref g2, .ref g3, .ref g4])), (g1, .inl (τ 0, 41, .inl sz)), (g2, .inl (τ 0, 1230, .inl bg)), (g3, .inl (τ 0, 1230, .inl en)), (g4, .inl (τ 0, 1230, .inl ln))] := hD
    refine lv_aload_n hx hb dH_keepOpen_35 rfl (lv_at hl 0 rfl) ?_
    refine va_get (D := D) (ci := 0) (v := .ref g1) (C := RH) (T := TH) (N := 6) hx hb hts iH hown hK hP 0 rfl rfl 2 (by decide) (hts _ w_49) (fun _ h9 => h9) rfl dH_keepOpen_36 ?_
    refine lv_aload_n hx hb dH_keepOpen_39 rfl (lv_at hl 0 rfl) ?_
    refine kc_Vi (As := []) (rest := [.ref g1]) (wr := [(g1, .inl (τ 0, 41, .inl sz)), (g2, .inl (τ 0, 1230, .inl bg)), (g3, .inl (τ 0, 1230, .inl en)), (g4, .inl (τ 0, 1230, .inl ln))]) (W1 := [(g0, .inr (0, [.int (nI K), .int (nI ((O + 1) % 41)), .ref g1, .ref g2, .ref g3, .ref g4])), (g1, .inl (τ 0, 41, .inl sz)), (g2, .inl (τ 0, 1230, .inl bg)), (g3, .inl (τ 0, 1230, .inl en)), (g4, .inl (τ 0, 1230, .inl ln))]) ⟨hx, hb, hml, hown, hts⟩ (ch_slot l D τ g0 g1 g2 g3 g4 K ((O + 1) % 41) (by first | assumption | omega) (by first | assumption | omega)) (kcwV hts qH_openSlot w_213 rfl rfl ⟨Nat.le_of_ble_eq_true rfl, Nat.le_of_ble_eq_true rfl⟩) hK hP hD hS hA [0] [1, 2, 3, 4] [4, 0, 1, 2, 3] rfl rfl (by decide) (by decide) (by decide) rfl rfl rfl (by decide) hl.1 rfl rfl (Nat.le_of_ble_eq_true rfl) ⟨Nat.zero_le _, Nat.zero_le _⟩ dH_keepOpen_40 (fun H locs hP hD hS => ?_)
    refine lv_iconst (v := 0) hx hb dH_keepOpen_43 (by decide) ?_
    refine ka_iast (k := (((O + 1) % 41) + K) % 41) hx hb hK hP hD hS 1 0 rfl rfl (by omega) (by omega) rfl dH_keepOpen_44 (fun H locs hP hD hS => ?_)
    have hP : va_P D vwCl [(g0, .inr (0, [.int (nI K), .int (nI ((O + 1) % 41)), .ref g1, .ref g2, .ref g3, .ref g4])), (g1, .inl (τ 0, 41, .inl (upd sz ((((O + 1) % 41) + K) % 41) 0))), (g2, .inl (τ 0, 1230, .inl bg)), (g3, .inl (τ 0, 1230, .inl en)), (g4, .inl (τ 0, 1230, .inl ln))] H := hP
    have hD : va_D A [(g0, .inr (0, [.int (nI K), .int (nI ((O + 1) % 41)), .ref g1, .ref g2, .ref g3, .ref g4])), (g1, .inl (τ 0, 41, .inl (upd sz ((((O + 1) % 41) + K) % 41) 0))), (g2, .inl (τ 0, 1230, .inl bg)), (g3, .inl (τ 0, 1230, .inl en)), (g4, .inl (τ 0, 1230, .inl ln))] := hD
    have e1_ : kKk K = K := if_neg (by omega)
    have e2_ : kKo K O = (O + 1) % 41 := if_neg (by omega)
    exact k_vret hx hb hr hlocks hK hS (by rw [e1_, e2_]; exact hP) (by rw [e1_, e2_]; exact hD) dH_keepOpen_45
  · skip
    have hK40 : K < 40 := Nat.lt_of_not_le (fun z => c_6 (nI_le (a := 40) z (by omega)))
    refine lv_aload_n hx hb dH_keepOpen_9 rfl (lv_at hl 0 rfl) ?_
    refine lv_dup hx hb dH_keepOpen_10 rfl ?_
    refine va_get (D := D) (ci := 0) (v := .int (nI K)) (C := RH) (T := TH) (N := 6) hx hb hts iH hown hK hP 0 rfl rfl 0 (by decide) (hts _ w_46) (fun _ h9 => h9) rfl dH_keepOpen_11 ?_
    refine lv_iconst (v := 1) hx hb dH_keepOpen_14 (by decide) ?_
    refine lv_iadd hx hb dH_keepOpen_15 ?_
    refine lv_topi (fun y_ ey_ => ?_)
    obtain rfl : y_ = nI (K + 1) := ey_.trans (nI_1 K)
    refine va_put (D := D) (ci := 0) (v := .int (nI (K + 1))) (ty := .int) (C := RH) (T := TH) (N := 6) hx hb hts iH tyH tyH_ok nmH hown hK hP hD hS 0 rfl rfl 0 (by decide) (hts _ w_46) (fun _ h9 => h9) rfl (by decide +kernel) rfl rfl (Nat.le_of_ble_eq_true rfl) dH_keepOpen_16 (fun H locs hP hD hS => ?_)
    have hP : va_P D vwCl [(g0, .inr (0, [.int (nI (K + 1)), .int (nI O), .ref g1, .ref g2, .ref g3, .ref g4])), (g1, .inl (τ 0, 41, .inl sz)), (g2, .inl (τ 0, 1230, .inl bg)), (g3, .inl (τ 0, 1230, .inl en)), (g4, .inl (τ 0, 1230, .inl ln))] H := hP
    have hD : va_D A [(g0, .inr (0, [.int (nI (K + 1)), .int (nI O), .ref g1, .ref g2, .ref g3, .ref g4])), (g1, .inl (τ 0, 41, .inl sz)), (g2, .inl (τ 0, 1230, .inl bg)), (g3, .inl (τ 0, 1230, .inl en)), (g4, .inl (τ 0, 1230, .inl ln))] := hD
    refine lv_goto (tgt := 35) hx hb dH_keepOpen_19 (by decide) ?_
    refine lv_aload_n hx hb dH_keepOpen_35 rfl (lv_at hl 0 rfl) ?_
    refine va_get (D := D) (ci := 0) (v := .ref g1) (C := RH) (T := TH) (N := 6) hx hb hts iH hown hK hP 0 rfl rfl 2 (by decide) (hts _ w_49) (fun _ h9 => h9) rfl dH_keepOpen_36 ?_
    refine lv_aload_n hx hb dH_keepOpen_39 rfl (lv_at hl 0 rfl) ?_
    refine kc_Vi (As := []) (rest := [.ref g1]) (wr := [(g1, .inl (τ 0, 41, .inl sz)), (g2, .inl (τ 0, 1230, .inl bg)), (g3, .inl (τ 0, 1230, .inl en)), (g4, .inl (τ 0, 1230, .inl ln))]) (W1 := [(g0, .inr (0, [.int (nI (K + 1)), .int (nI O), .ref g1, .ref g2, .ref g3, .ref g4])), (g1, .inl (τ 0, 41, .inl sz)), (g2, .inl (τ 0, 1230, .inl bg)), (g3, .inl (τ 0, 1230, .inl en)), (g4, .inl (τ 0, 1230, .inl ln))]) ⟨hx, hb, hml, hown, hts⟩ (ch_slot l D τ g0 g1 g2 g3 g4 (K + 1) O (by first | assumption | omega) (by first | assumption | omega)) (kcwV hts qH_openSlot w_213 rfl rfl ⟨Nat.le_of_ble_eq_true rfl, Nat.le_of_ble_eq_true rfl⟩) hK hP hD hS hA [0] [1, 2, 3, 4] [4, 0, 1, 2, 3] rfl rfl (by decide) (by decide) (by decide) rfl rfl rfl (by decide) hl.1 rfl rfl (Nat.le_of_ble_eq_true rfl) ⟨Nat.zero_le _, Nat.zero_le _⟩ dH_keepOpen_40 (fun H locs hP hD hS => ?_)
    refine lv_iconst (v := 0) hx hb dH_keepOpen_43 (by decide) ?_
    refine ka_iast (k := (O + (K + 1)) % 41) hx hb hK hP hD hS 1 0 rfl rfl (by omega) (by omega) rfl dH_keepOpen_44 (fun H locs hP hD hS => ?_)
    have hP : va_P D vwCl [(g0, .inr (0, [.int (nI (K + 1)), .int (nI O), .ref g1, .ref g2, .ref g3, .ref g4])), (g1, .inl (τ 0, 41, .inl (upd sz ((O + (K + 1)) % 41) 0))), (g2, .inl (τ 0, 1230, .inl bg)), (g3, .inl (τ 0, 1230, .inl en)), (g4, .inl (τ 0, 1230, .inl ln))] H := hP
    have hD : va_D A [(g0, .inr (0, [.int (nI (K + 1)), .int (nI O), .ref g1, .ref g2, .ref g3, .ref g4])), (g1, .inl (τ 0, 41, .inl (upd sz ((O + (K + 1)) % 41) 0))), (g2, .inl (τ 0, 1230, .inl bg)), (g3, .inl (τ 0, 1230, .inl en)), (g4, .inl (τ 0, 1230, .inl ln))] := hD
    have e1_ : kKk K = K + 1 := if_pos hK40
    have e2_ : kKo K O = O := if_pos hK40
    exact k_vret hx hb hr hlocks hK hS (by rw [e1_, e2_]; exact hP) (by rw [e1_, e2_]; exact hD) dH_keepOpen_45
set_option maxHeartbeats 4000000 in
set_option maxRecDepth 100000 in
theorem lh_back {p : Program} {l : Launch} {e : Env} {s : State} {m : MethodId} {args : Array Value} {below : List Frame} {meth : Method} {c : Code} {Q : State → Prop} {D : va_G} {τ : Nat → ClassId} {A : Nat → Prop} (hx : p.tables.exec = Jvm.exec) (hb : c.code = cH_takeBackLatest) (hml : c.maxLocals = 5) (hown : s.vm.findClass RH = some m.cls) (hts : ∀ w ∈ kTbl, w.before args s = true) (hK : va_K D vwCl (kTys τ) s) (hA : ∀ q : Nat, s.heap.size ≤ q → A q) (g0 : Nat) (g1 : Nat) (g2 : Nat) (g3 : Nat) (g4 : Nat) (K : Nat) (O : Nat) (sz : Nat → Int32) (bg : Nat → Int32) (en : Nat → Int32) (ln : Nat → Int32) (n0 : Nat) (n1 : Nat) (N : Nat) (sl : Nat) (S : Nat) (gr : Int32) (gl : Nat → Int32) (hsl : sl < 41) (hS30 : S ≤ 30) (hBb : ∀ q, q < S → ∃ a b, a < 24 ∧ b < 24 ∧ bg (sl * 30 + q) = nI a ∧ en (sl * 30 + q) = nI b)
    (kx : ∀ (H : Heap) (locs : List Loc) (ls : Array Slot), va_P D vwCl [(g0, .inr (0, [.int (nI K), .int (nI O), .ref g1, .ref g2, .ref g3, .ref g4])), (g1, .inl (τ 0, 41, .inl sz)), (g2, .inl (τ 0, 1230, .inl bg)), (g3, .inl (τ 0, 1230, .inl en)), (g4, .inl (τ 0, 1230, .inl ln)), (n0, .inr (2, [.int (nI N), .int ((kItr (kTb bg en ln sl S) S (gr, gl)).1), .ref n1])), (n1, .inl (τ 0, 576, .inl ((kItr (kTb bg en ln sl S) S (gr, gl)).2)))] H → va_D A [(g0, .inr (0, [.int (nI K), .int (nI O), .ref g1, .ref g2, .ref g3, .ref g4])), (g1, .inl (τ 0, 41, .inl sz)), (g2, .inl (τ 0, 1230, .inl bg)), (g3, .inl (τ 0, 1230, .inl en)), (g4, .inl (τ 0, 1230, .inl ln)), (n0, .inr (2, [.int (nI N), .int ((kItr (kTb bg en ln sl S) S (gr, gl)).1), .ref n1])), (n1, .inl (τ 0, 576, .inl ((kItr (kTb bg en ln sl S) S (gr, gl)).2)))] → va_S A s.heap H locs → lv_has ls 5 [(0, .ref g0), (1, .ref n0), (2, .int (nI sl))] → W p l e (headSpec (kWs yH_takeBackLatest cH_takeBackLatest 5 none) { frames := 2, cells := 0, slots := 0, locals := 46 }).room s m args below meth c H locs 0 0 Q (F0 m 75 ls [])) :
    ∀ (n k : Nat), k + n = S → ∀ (H : Heap) (locs : List Loc) (ls : Array Slot), va_P D vwCl [(g0, .inr (0, [.int (nI K), .int (nI O), .ref g1, .ref g2, .ref g3, .ref g4])), (g1, .inl (τ 0, 41, .inl sz)), (g2, .inl (τ 0, 1230, .inl bg)), (g3, .inl (τ 0, 1230, .inl en)), (g4, .inl (τ 0, 1230, .inl ln)), (n0, .inr (2, [.int (nI N), .int ((kItr (kTb bg en ln sl S) k (gr, gl)).1), .ref n1])), (n1, .inl (τ 0, 576, .inl ((kItr (kTb bg en ln sl S) k (gr, gl)).2)))] H → va_D A [(g0, .inr (0, [.int (nI K), .int (nI O), .ref g1, .ref g2, .ref g3, .ref g4])), (g1, .inl (τ 0, 41, .inl sz)), (g2, .inl (τ 0, 1230, .inl bg)), (g3, .inl (τ 0, 1230, .inl en)), (g4, .inl (τ 0, 1230, .inl ln)), (n0, .inr (2, [.int (nI N), .int ((kItr (kTb bg en ln sl S) k (gr, gl)).1), .ref n1])), (n1, .inl (τ 0, 576, .inl ((kItr (kTb bg en ln sl S) k (gr, gl)).2)))] → va_S A s.heap H locs → lv_has ls 5 [(0, .ref g0), (1, .ref n0), (2, .int (nI sl)), (3, .int (nI (S - k) - 1))] → W p l e (headSpec (kWs yH_takeBackLatest cH_takeBackLatest 5 none) { frames := 2, cells := 0, slots := 0, locals := 46 }).room s m args below meth c H locs 0 0 Q (F0 m 32 ls []) := by
  intro n
  induction n with
  | zero =>
    intro k hk H locs ls hP hD hS hl
    have hkN : S = k := by omega
    subst hkN
    revert hP hD hl
    generalize hst : (kItr (kTb bg en ln sl S) S (gr, gl)) = st
    intro hP hD hl
    obtain ⟨ar, len⟩ := st
    have hP : va_P D vwCl [(g0, .inr (0, [.int (nI K), .int (nI O), .ref g1, .ref g2, .ref g3, .ref g4])), (g1, .inl (τ 0, 41, .inl sz)), (g2, .inl (τ 0, 1230, .inl bg)), (g3, .inl (τ 0, 1230, .inl en)), (g4, .inl (τ 0, 1230, .inl ln)), (n0, .inr (2, [.int (nI N), .int ar, .ref n1])), (n1, .inl (τ 0, 576, .inl len))] H := hP
    have hD : va_D A [(g0, .inr (0, [.int (nI K), .int (nI O), .ref g1, .ref g2, .ref g3, .ref g4])), (g1, .inl (τ 0, 41, .inl sz)), (g2, .inl (τ 0, 1230, .inl bg)), (g3, .inl (τ 0, 1230, .inl en)), (g4, .inl (τ 0, 1230, .inl ln)), (n0, .inr (2, [.int (nI N), .int ar, .ref n1])), (n1, .inl (τ 0, 576, .inl len))] := hD
    have hl : lv_has ls 5 [(0, .ref g0), (1, .ref n0), (2, .int (nI sl)), (3, .int (nI (S - S) - 1))] := hl
    refine lv_iload_n hx hb dH_takeBackLatest_32 rfl (lv_at hl 3 rfl) ?_
    refine lv_if_lt (tgt := 75) hx hb dH_takeBackLatest_33 (by decide) (fun c_33 => ?_) (fun c_33 => absurd (by rw [Nat.sub_self]; decide) c_33)
    exact kx H locs ls (by (try rw [hst]); exact hP) (by (try rw [hst]); exact hD) hS (by (try rw [hst]); exact lv_sub hl [0, 1, 2] rfl)
  | succ n ih =>
    intro k hk H locs ls hP hD hS hl
    have hkN : k < S := by omega
    have ih := ih (k + 1) (by omega)
    rw [kItr_s] at ih
    revert hP hD hl ih
    generalize hst : (kItr (kTb bg en ln sl S) k (gr, gl)) = st
    intro hP hD hl ih
    obtain ⟨ar, len⟩ := st
    have hP : va_P D vwCl [(g0, .inr (0, [.int (nI K), .int (nI O), .ref g1, .ref g2, .ref g3, .ref g4])), (g1, .inl (τ 0, 41, .inl sz)), (g2, .inl (τ 0, 1230, .inl bg)), (g3, .inl (τ 0, 1230, .inl en)), (g4, .inl (τ 0, 1230, .inl ln)), (n0, .inr (2, [.int (nI N), .int ar, .ref n1])), (n1, .inl (τ 0, 576, .inl len))] H := hP
    have hD : va_D A [(g0, .inr (0, [.int (nI K), .int (nI O), .ref g1, .ref g2, .ref g3, .ref g4])), (g1, .inl (τ 0, 41, .inl sz)), (g2, .inl (τ 0, 1230, .inl bg)), (g3, .inl (τ 0, 1230, .inl en)), (g4, .inl (τ 0, 1230, .inl ln)), (n0, .inr (2, [.int (nI N), .int ar, .ref n1])), (n1, .inl (τ 0, 576, .inl len))] := hD
    have hl : lv_has ls 5 [(0, .ref g0), (1, .ref n0), (2, .int (nI sl)), (3, .int (nI (S - k) - 1))] := hl
    have e3_ : nI (S - k) - 1 = nI (S - k - 1) := pk_sub (b := 1) (by omega)
    rw [e3_] at hl
    refine lv_iload_n hx hb dH_takeBackLatest_32 rfl (lv_at hl 3 rfl) ?_
    refine lv_if_lt (tgt := 75) hx hb dH_takeBackLatest_33 (by decide) (fun c_33 => absurd c_33 (nI_pos (by omega))) (fun c_33 => ?_)
    refine lv_iload_n hx hb dH_takeBackLatest_36 rfl (lv_at hl 2 rfl) ?_
    refine lv_bipush (v := 30) hx hb dH_takeBackLatest_37 (by decide) ?_
    refine lv_imul hx hb dH_takeBackLatest_39 ?_
    refine lv_topi (fun y_ ey_ => ?_)
    obtain rfl : y_ = nI (sl * 30) := ey_.trans (pk_mul _ 30)
    refine lv_iload_n hx hb dH_takeBackLatest_40 rfl (lv_at hl 3 rfl) ?_
    refine lv_iadd hx hb dH_takeBackLatest_41 ?_
    refine lv_topi (fun y_ ey_ => ?_)
    obtain rfl : y_ = nI (sl * 30 + (S - k - 1)) := ey_.trans (nI_add _ _)
    refine lv_istore (lv' := [(4, .int (nI (sl * 30 + (S - k - 1)))), (0, .ref g0), (1, .ref n0), (2, .int (nI sl)), (3, .int (nI (S - k - 1)))]) hx hb dH_takeBackLatest_42 hl (by decide) rfl (fun ls hl => ?_)
    obtain ⟨qa, qb, hqa, hqb, eqa, eqb⟩ := hBb (S - k - 1) (by omega)
    refine lv_aload_n hx hb dH_takeBackLatest_44 rfl (lv_at hl 2 rfl) ?_
    refine lv_aload_n hx hb dH_takeBackLatest_45 rfl (lv_at hl 1 rfl) ?_
    refine va_get (D := D) (ci := 0) (v := .ref g2) (C := RH) (T := TH) (N := 6) hx hb hts iH hown hK hP 0 rfl rfl 3 (by decide) (hts _ w_50) (fun _ h9 => h9) rfl dH_takeBackLatest_46 ?_
    refine lv_iload hx hb dH_takeBackLatest_49 (lv_at hl 0 rfl) ?_
    refine ka_iald (k := sl * 30 + (S - k - 1)) hx hb hK hP 2 0 rfl rfl (by omega) (by omega) rfl dH_takeBackLatest_51 ?_
    refine lv_topi (fun y_ ey_ => ?_)
    obtain rfl : y_ = nI qa := ey_.trans eqa
    refine lv_aload_n hx hb dH_takeBackLatest_52 rfl (lv_at hl 1 rfl) ?_
    refine va_get (D := D) (ci := 0) (v := .ref g3) (C := RH) (T := TH) (N := 6) hx hb hts iH hown hK hP 0 rfl rfl 4 (by decide) (hts _ w_51) (fun _ h9 => h9) rfl dH_takeBackLatest_53 ?_
    refine lv_iload hx hb dH_takeBackLatest_56 (lv_at hl 0 rfl) ?_
    refine ka_iald (k := sl * 30 + (S - k - 1)) hx hb hK hP 3 0 rfl rfl (by omega) (by omega) rfl dH_takeBackLatest_58 ?_
    refine lv_topi (fun y_ ey_ => ?_)
    obtain rfl : y_ = nI qb := ey_.trans eqb
    refine lv_aload_n hx hb dH_takeBackLatest_59 rfl (lv_at hl 1 rfl) ?_
    refine va_get (D := D) (ci := 0) (v := .ref g4) (C := RH) (T := TH) (N := 6) hx hb hts iH hown hK hP 0 rfl rfl 5 (by decide) (hts _ w_52) (fun _ h9 => h9) rfl dH_takeBackLatest_60 ?_
    refine lv_iload hx hb dH_takeBackLatest_63 (lv_at hl 0 rfl) ?_
    refine ka_iald (k := sl * 30 + (S - k - 1)) hx hb hK hP 4 0 rfl rfl (by omega) (by omega) rfl dH_takeBackLatest_65 ?_
    refine kc_Vv (As := [.int (nI qa), .int (nI qb), .int (ln (sl * 30 + (S - k - 1)))]) (rest := []) (wr := [(g0, .inr (0, [.int (nI K), .int (nI O), .ref g1, .ref g2, .ref g3, .ref g4])), (g1, .inl (τ 0, 41, .inl sz)), (g2, .inl (τ 0, 1230, .inl bg)), (g3, .inl (τ 0, 1230, .inl en)), (g4, .inl (τ 0, 1230, .inl ln))]) (W1 := [(g0, .inr (0, [.int (nI K), .int (nI O), .ref g1, .ref g2, .ref g3, .ref g4])), (g1, .inl (τ 0, 41, .inl sz)), (g2, .inl (τ 0, 1230, .inl bg)), (g3, .inl (τ 0, 1230, .inl en)), (g4, .inl (τ 0, 1230, .inl ln)), (n0, .inr (2, [.int (nI N), .int (kArcs ar (len (qa * 24 + qb)) (ln (sl * 30 + (S - k - 1)))), .ref n1])), (n1, .inl (τ 0, 576, .inl (upd len (qa * 24 + qb) (ln (sl * 30 + (S - k - 1))))))]) ⟨hx, hb, hml, hown, hts⟩ (cn_set l D τ n0 n1 N qa qb ar (ln (sl * 30 + (S - k - 1))) len (by first | assumption | omega) (by first | assumption | omega)) (kcwV hts qN_setLength w_291 rfl rfl ⟨Nat.le_of_ble_eq_true rfl, Nat.le_of_ble_eq_true rfl⟩) hK hP hD hS hA [5, 6] [0, 1, 2, 3, 4] [0, 1, 2, 3, 4, 5, 6] rfl rfl (by decide) (by decide) (by decide) rfl rfl rfl (by decide) hl.1 rfl rfl (Nat.le_of_ble_eq_true rfl) ⟨Nat.zero_le _, Nat.zero_le _⟩ dH_takeBackLatest_66 (fun H locs hP hD hS => ?_)
    refine lv_iinc (v := nI (S - (k + 1)) - 1) (lv' := [(3, .int (nI (S - (k + 1)) - 1)), (4, .int (nI (sl * 30 + (S - k - 1)))), (0, .ref g0), (1, .ref n0), (2, .int (nI sl))]) hx hb dH_takeBackLatest_69 hl (k := 4) rfl (by rw [show S - (k + 1) = S - k - 1 by omega]; exact k_m1 _) (by decide) rfl (fun ls hl => ?_)
    refine lv_goto (tgt := 32) hx hb dH_takeBackLatest_72 (by decide) ?_
    have e_ : (kTb bg en ln sl S) k (ar, len) = (kArcs ar (len (qa * 24 + qb)) (ln (sl * 30 + (S - k - 1))), upd len (qa * 24 + qb) (ln (sl * 30 + (S - k - 1)))) := by unfold kTb; dsimp only; rw [eqa, eqb, nI_clamp (by omega), nI_clamp (by omega)]
    (try rw [e_] at ih)
    exact ih H locs ls hP hD hS (lv_sub hl [2, 3, 4, 0] rfl)
set_option maxHeartbeats 4000000 in
set_option maxRecDepth 100000 in
theorem ch_back (l : Launch) (D : va_G) (τ : Nat → ClassId) (g0 : Nat) (g1 : Nat) (g2 : Nat) (g3 : Nat) (g4 : Nat) (K : Nat) (O : Nat) (sz : Nat → Int32) (bg : Nat → Int32) (en : Nat → Int32) (ln : Nat → Int32) (n0 : Nat) (n1 : Nat) (N : Nat) (ar : Int32) (len : Nat → Int32) (S : Nat) (hKk : K ≤ 40) (hK0 : 0 < K) (hOo : O < 41) (hS30 : S ≤ 30) (hSs : sz ((O + (K - 1)) % 41) = nI S) (hBb : ∀ q, q < S → ∃ a b, a < 24 ∧ b < 24 ∧ bg (((O + (K - 1)) % 41) * 30 + q) = nI a ∧ en (((O + (K - 1)) % 41) * 30 + q) = nI b) : kMv l D τ yH_takeBackLatest (kWs yH_takeBackLatest cH_takeBackLatest 5 none) { frames := 2, cells := 0, slots := 0, locals := 46 } [.ref g0, .ref n0] [(g0, .inr (0, [.int (nI K), .int (nI O), .ref g1, .ref g2, .ref g3, .ref g4])), (g1, .inl (τ 0, 41, .inl sz)), (g2, .inl (τ 0, 1230, .inl bg)), (g3, .inl (τ 0, 1230, .inl en)), (g4, .inl (τ 0, 1230, .inl ln)), (n0, .inr (2, [.int (nI N), .int ar, .ref n1])), (n1, .inl (τ 0, 576, .inl len))] [(g0, .inr (0, [.int (nI (K - 1)), .int (nI O), .ref g1, .ref g2, .ref g3, .ref g4])), (g1, .inl (τ 0, 41, .inl (upd sz ((O + (K - 1)) % 41) 0))), (g2, .inl (τ 0, 1230, .inl bg)), (g3, .inl (τ 0, 1230, .inl en)), (g4, .inl (τ 0, 1230, .inl ln)), (n0, .inr (2, [.int (nI N), .int ((kItr (kTb bg en ln ((O + (K - 1)) % 41) S) S (ar, len)).1), .ref n1])), (n1, .inl (τ 0, 576, .inl ((kItr (kTb bg en ln ((O + (K - 1)) % 41) S) S (ar, len)).2)))] := by
  intro sz
  refine Met.ofW (cc := cH_takeBackLatest) (maxL := 5) (ret := none) (by decide) rfl ?_
  intro p e s m args below meth c s₁ B hml hv
  obtain ⟨rfl, hsz, hP, hK, hD0⟩ := hv
  have hx := B.exec
  have hb := B.bytes
  have hr := B.returns
  have hts := fun w (hw : w ∈ kTbl) => atoms_spec (ws := (kWs yH_takeBackLatest cH_takeBackLatest 5 none)) B.pre w (List.mem_cons_of_mem _ hw)
  have hown : s.vm.findClass RH = some m.cls := findClass_of_methodNamed B.named
  have hlocks := B.notSynchronized
  subst hsz
  have hD := hD0.self (sz := s.heap.size)
  generalize hAe : va_A [(g0, .inr (0, [.int (nI K), .int (nI O), .ref g1, .ref g2, .ref g3, .ref g4])), (g1, .inl (τ 0, 41, .inl sz)), (g2, .inl (τ 0, 1230, .inl bg)), (g3, .inl (τ 0, 1230, .inl en)), (g4, .inl (τ 0, 1230, .inl ln)), (n0, .inr (2, [.int (nI N), .int ar, .ref n1])), (n1, .inl (τ 0, 576, .inl len))] s.heap.size = A at hD ⊢
  have hA : ∀ q : Nat, s.heap.size ≤ q → A q := fun q h => by rw [← hAe]; exact Or.inr h
  have hS : va_S A s.heap s.heap [] := va_S.rf
  have hP : va_P D vwCl [(g0, .inr (0, [.int (nI K), .int (nI O), .ref g1, .ref g2, .ref g3, .ref g4])), (g1, .inl (τ 0, 41, .inl sz)), (g2, .inl (τ 0, 1230, .inl bg)), (g3, .inl (τ 0, 1230, .inl en)), (g4, .inl (τ 0, 1230, .inl ln)), (n0, .inr (2, [.int (nI N), .int ar, .ref n1])), (n1, .inl (τ 0, 576, .inl len))] s.heap := hP
  have hl := lv_entry ([.ref g0, .ref n0]) (n := 5) (Nat.le_of_ble_eq_true rfl)
  rw [lg_entry_eq]
  generalize (lg_sl ([.ref g0, .ref n0]) ++ List.replicate (5 - (lg_sl ([.ref g0, .ref n0])).length) Slot.unset).toArray = ls at hl ⊢
  have hl : lv_has ls 5 [(0, .ref g0), (1, .ref n0)] := hl
  skip
  refine lv_aload_n hx hb dH_takeBackLatest_0 rfl (lv_at hl 0 rfl) ?_
  refine va_get (D := D) (ci := 0) (v := .int (nI K)) (C := RH) (T := TH) (N := 6) hx hb hts iH hown hK hP 0 rfl rfl 0 (by decide) (hts _ w_46) (fun _ h9 => h9) rfl dH_takeBackLatest_1 ?_
  refine lv_if_ne (tgt := 8) hx hb dH_takeBackLatest_4 (by decide) (fun c_4 => ?_) (fun c_4 => absurd c_4 (nI_ne0 hK0 (by omega)))
  refine lv_aload_n hx hb dH_takeBackLatest_8 rfl (lv_at hl 0 rfl) ?_
  refine lv_dup hx hb dH_takeBackLatest_9 rfl ?_
  refine va_get (D := D) (ci := 0) (v := .int (nI K)) (C := RH) (T := TH) (N := 6) hx hb hts iH hown hK hP 0 rfl rfl 0 (by decide) (hts _ w_46) (fun _ h9 => h9) rfl dH_takeBackLatest_10 ?_
  refine lv_iconst (v := 1) hx hb dH_takeBackLatest_13 (by decide) ?_
  refine lv_isub hx hb dH_takeBackLatest_14 ?_
  refine lv_topi (fun y_ ey_ => ?_)
  obtain rfl : y_ = nI (K - 1) := ey_.trans (pk_sub (b := 1) (by omega))
  refine va_put (D := D) (ci := 0) (v := .int (nI (K - 1))) (ty := .int) (C := RH) (T := TH) (N := 6) hx hb hts iH tyH tyH_ok nmH hown hK hP hD hS 0 rfl rfl 0 (by decide) (hts _ w_46) (fun _ h9 => h9) rfl (by decide +kernel) rfl rfl (Nat.le_of_ble_eq_true rfl) dH_takeBackLatest_15 (fun H locs hP hD hS => ?_)
  have hP : va_P D vwCl [(g0, .inr (0, [.int (nI (K - 1)), .int (nI O), .ref g1, .ref g2, .ref g3, .ref g4])), (g1, .inl (τ 0, 41, .inl sz)), (g2, .inl (τ 0, 1230, .inl bg)), (g3, .inl (τ 0, 1230, .inl en)), (g4, .inl (τ 0, 1230, .inl ln)), (n0, .inr (2, [.int (nI N), .int ar, .ref n1])), (n1, .inl (τ 0, 576, .inl len))] H := hP
  have hD : va_D A [(g0, .inr (0, [.int (nI (K - 1)), .int (nI O), .ref g1, .ref g2, .ref g3, .ref g4])), (g1, .inl (τ 0, 41, .inl sz)), (g2, .inl (τ 0, 1230, .inl bg)), (g3, .inl (τ 0, 1230, .inl en)), (g4, .inl (τ 0, 1230, .inl ln)), (n0, .inr (2, [.int (nI N), .int ar, .ref n1])), (n1, .inl (τ 0, 576, .inl len))] := hD
  refine lv_aload_n hx hb dH_takeBackLatest_18 rfl (lv_at hl 0 rfl) ?_
  refine kc_Vi (As := []) (rest := []) (wr := [(g1, .inl (τ 0, 41, .inl sz)), (g2, .inl (τ 0, 1230, .inl bg)), (g3, .inl (τ 0, 1230, .inl en)), (g4, .inl (τ 0, 1230, .inl ln)), (n0, .inr (2, [.int (nI N), .int ar, .ref n1])), (n1, .inl (τ 0, 576, .inl len))]) (W1 := [(g0, .inr (0, [.int (nI (K - 1)), .int (nI O), .ref g1, .ref g2, .ref g3, .ref g4])), (g1, .inl (τ 0, 41, .inl sz)), (g2, .inl (τ 0, 1230, .inl bg)), (g3, .inl (τ 0, 1230, .inl en)), (g4, .inl (τ 0, 1230, .inl ln)), (n0, .inr (2, [.int (nI N), .int ar, .ref n1])), (n1, .inl (τ 0, 576, .inl len))]) ⟨hx, hb, hml, hown, hts⟩ (ch_slot l D τ g0 g1 g2 g3 g4 (K - 1) O (by first | assumption | omega) (by first | assumption | omega)) (kcwV hts qH_openSlot w_213 rfl rfl ⟨Nat.le_of_ble_eq_true rfl, Nat.le_of_ble_eq_true rfl⟩) hK hP hD hS hA [0] [1, 2, 3, 4, 5, 6] [6, 0, 1, 2, 3, 4, 5] rfl rfl (by decide) (by decide) (by decide) rfl rfl rfl (by decide) hl.1 rfl rfl (Nat.le_of_ble_eq_true rfl) ⟨Nat.zero_le _, Nat.zero_le _⟩ dH_takeBackLatest_19 (fun H locs hP hD hS => ?_)
  refine lv_istore_n (lv' := [(2, .int (nI ((O + (K - 1)) % 41))), (0, .ref g0), (1, .ref n0)]) hx hb dH_takeBackLatest_22 rfl hl (by decide) rfl (fun ls hl => ?_)
  refine lv_aload_n hx hb dH_takeBackLatest_23 rfl (lv_at hl 1 rfl) ?_
  refine va_get (D := D) (ci := 0) (v := .ref g1) (C := RH) (T := TH) (N := 6) hx hb hts iH hown hK hP 0 rfl rfl 2 (by decide) (hts _ w_49) (fun _ h9 => h9) rfl dH_takeBackLatest_24 ?_
  refine lv_iload_n hx hb dH_takeBackLatest_27 rfl (lv_at hl 0 rfl) ?_
  refine ka_iald (k := (O + (K - 1)) % 41) hx hb hK hP 1 0 rfl rfl (by omega) (by omega) rfl dH_takeBackLatest_28 ?_
  refine lv_topi (fun y_ ey_ => ?_)
  obtain rfl : y_ = nI S := ey_.trans hSs
  refine lv_iconst (v := 1) hx hb dH_takeBackLatest_29 (by decide) ?_
  refine lv_isub hx hb dH_takeBackLatest_30 ?_
  refine lv_istore_n (lv' := [(3, .int ((nI S) - 1)), (2, .int (nI ((O + (K - 1)) % 41))), (0, .ref g0), (1, .ref n0)]) hx hb dH_takeBackLatest_31 rfl hl (by decide) rfl (fun ls hl => ?_)
  refine lh_back hx hb hml hown hts hK hA g0 g1 g2 g3 g4 (K - 1) O sz bg en ln n0 n1 N ((O + (K - 1)) % 41) S ar len (by first | assumption | omega) (by first | assumption | omega) (by first | assumption | omega) (fun H locs ls hP hD hS hl => ?_) S 0 (by omega) _ _ ls hP hD hS (lv_sub hl [2, 3, 1, 0] rfl)
  refine lv_aload_n hx hb dH_takeBackLatest_75 rfl (lv_at hl 0 rfl) ?_
  refine va_get (D := D) (ci := 0) (v := .ref g1) (C := RH) (T := TH) (N := 6) hx hb hts iH hown hK hP 0 rfl rfl 2 (by decide) (hts _ w_49) (fun _ h9 => h9) rfl dH_takeBackLatest_76 ?_
  refine lv_iload_n hx hb dH_takeBackLatest_79 rfl (lv_at hl 2 rfl) ?_
  refine lv_iconst (v := 0) hx hb dH_takeBackLatest_80 (by decide) ?_
  refine ka_iast (k := ((O + (K - 1)) % 41)) hx hb hK hP hD hS 1 0 rfl rfl (by omega) (by omega) rfl dH_takeBackLatest_81 (fun H locs hP hD hS => ?_)
  have hP : va_P D vwCl [(g0, .inr (0, [.int (nI (K - 1)), .int (nI O), .ref g1, .ref g2, .ref g3, .ref g4])), (g1, .inl (τ 0, 41, .inl (upd sz ((O + (K - 1)) % 41) 0))), (g2, .inl (τ 0, 1230, .inl bg)), (g3, .inl (τ 0, 1230, .inl en)), (g4, .inl (τ 0, 1230, .inl ln)), (n0, .inr (2, [.int (nI N), .int ((kItr (kTb bg en ln ((O + (K - 1)) % 41) S) (S) (ar, len)).1), .ref n1])), (n1, .inl (τ 0, 576, .inl ((kItr (kTb bg en ln ((O + (K - 1)) % 41) S) (S) (ar, len)).2)))] H := hP
  have hD : va_D A [(g0, .inr (0, [.int (nI (K - 1)), .int (nI O), .ref g1, .ref g2, .ref g3, .ref g4])), (g1, .inl (τ 0, 41, .inl (upd sz ((O + (K - 1)) % 41) 0))), (g2, .inl (τ 0, 1230, .inl bg)), (g3, .inl (τ 0, 1230, .inl en)), (g4, .inl (τ 0, 1230, .inl ln)), (n0, .inr (2, [.int (nI N), .int ((kItr (kTb bg en ln ((O + (K - 1)) % 41) S) (S) (ar, len)).1), .ref n1])), (n1, .inl (τ 0, 576, .inl ((kItr (kTb bg en ln ((O + (K - 1)) % 41) S) (S) (ar, len)).2)))] := hD
  exact k_vret hx hb hr hlocks hK hS hP hD dH_takeBackLatest_82
