/-- a constructor's call on the last of the cells -/
theorem kc_IL {p : Program} {l : Launch} {e : Env} {R : Room} {s : State} {m : MethodId} {args : Array Value} {below : List Frame} {meth : Method} {c : Code} {H : Heap} {locs : List Loc} {cells slots : Nat} {Q : State → Prop} {cc : ByteArray} {D : va_G} {τ : Nat → ClassId} {A : Nat → Prop} {pc : Nat} {ls : Array Slot} {rest : List Value}
    {nL : Nat} {own : String} {y : MethodName} {rm : Room} {bytes : ByteArray} {maxL index b mc ms : Nat} {wc X : va_W} {w' : (Nat → Nat) → va_W}
    (S : CallFix p m c cc nL s args kTbl own) (hM : kMn l D τ y (kWs y bytes maxL none) rm [.ref b] wc w' mc ms) (cw : CallB R s args own index y bytes maxL none (kWs y bytes maxL none) rm mc ms 0 ∧ y.name = "<init>" ∧ (Cond.instanceMethod y).before args s = true) (hK : va_K D vwCl (kTys τ) s) (hP : va_P D vwCl (X ++ wc) H) (hD : va_D A (X ++ wc)) (hS : va_S A s.heap H locs) (hA : ∀ q, s.heap.size ≤ q → A q)
    (hsize : ls.size = nL) (hcat : (rest.map fun v => v.category).sum ≤ 8) (hcs : cells + mc ≤ R.cells ∧ slots + ms ≤ R.slots) (hdg : decode cc pc = .ok (.invokespecial index, 3))
    (kk : ∀ (u : Nat → Nat) (H1 : Heap) (locs1 : List Loc), va_P D vwCl (X ++ w' u) H1 → va_D A (X ++ w' u) → va_S A s.heap H1 locs1 → W p l e R s m args below meth c H1 locs1 (cells + mc) (slots + ms) Q (F0 m (pc + 3) ls rest)) : W p l e R s m args below meth c H locs cells slots Q (F0 m pc ls (.ref b :: rest)) := by
  have hPw : va_P D vwCl (wc ++ X) H := va_P.app (fun k q hq => hP _ q (k_right hq)) (fun k q hq => hP k q (k_left hq))
  have hDw : va_D A (wc ++ X) := by
    refine va_D.app ⟨fun i j x y hx hy e => ?_, fun k q hq => hD.2 _ _ (k_right hq)⟩ ⟨fun i j x y hx hy e => hD.1 i j x y (k_left hx) (k_left hy) e, fun k q hq => hD.2 k q (k_left hq)⟩ (fun i j x y hx hy e => ?_)
    · have := hD.1 _ _ _ _ (k_right (X := X) hx) (k_right (X := X) hy) e
      omega
    · have := hD.1 _ _ _ _ (k_left (Y := wc) hy) (k_right (X := X) hx) e.symm
      have := (List.getElem?_eq_some_iff.mp hy).1
      omega
  have hPc : va_P D vwCl wc H := fun k q hq => hP _ q (k_right hq)
  have hDc : va_D A wc := ⟨fun i j x y hx hy e => hDw.1 i j x y (k_left hx) (k_left hy) e, fun k q hq => hDw.2 k q (k_left hq)⟩
  have hFc : ∀ q, va_A wc H.size q → A q := by
    intro q h
    rcases h with ⟨k, e9, h⟩ | h
    · exact hDc.2 k _ h
    · exact hA q (Nat.le_trans hS.1 h)
  refine va_callv (va_runI (As := []) (rest := rest) S (hM H.size) cw ⟨kPc_blind, fun U hU hW => ⟨rfl, by rw [hU], by rw [hU]; exact hPc, va_K.moved hW.alike hK, hDc.weaken (fun _ _ _ _ => trivial)⟩⟩ rfl rfl hsize rfl (lv_room hcat) hdg hcs) hS (fun q _ h => hFc q h) hFc (fun u t H1 locs1 ht hvm hw hB hz1 hk1 hS1 => ?_)
  obtain ⟨hP1, hK1, hD1⟩ := hB
  rw [ht] at hP1
  obtain ⟨hP2, hD2⟩ := k_flip hPw hDw hk1 hFc hP1 hD1
  exact kk u H1 locs1 hP2 hD2 hS1
theorem kPcK_blind {D : va_G} {τ : Nat → ClassId} {av : List Value} {w : va_W} {sz : Nat} : FrameBlind (kPcK D τ av w sz) := fun a U g mk q => by
  obtain ⟨q0, q1, q2, q3⟩ := q
  exact ⟨kPc_blind a U g mk q0, va_AO.moved (u := U) (U := U.calling g mk a) (Vm.Alike.refl U.vm) q1, va_Nw.same (u := U) (U := U.calling g mk a) rfl rfl q2, va_Nw.same (u := U) (U := U.calling g mk a) rfl rfl q3⟩
theorem kc_IK {p : Program} {l : Launch} {e : Env} {R : Room} {s : State} {m : MethodId} {args : Array Value} {below : List Frame} {meth : Method} {c : Code} {H : Heap} {locs : List Loc} {cells slots : Nat} {Q : State → Prop} {cc : ByteArray} {D : va_G} {τ : Nat → ClassId} {A : Nat → Prop} {pc : Nat} {ls : Array Slot} {rest : List Value}
    {nL : Nat} {own : String} {y : MethodName} {rm : Room} {bytes : ByteArray} {maxL index b mc ms : Nat} {wc W0 wr : va_W} {w' : (Nat → Nat) → va_W}
    (S : CallFix p m c cc nL s args kTbl own) (hM : kMnK l D τ y (kWs y bytes maxL none) rm [.ref b] wc w' mc ms) (cw : CallB R s args own index y bytes maxL none (kWs y bytes maxL none) rm mc ms 0 ∧ y.name = "<init>" ∧ (Cond.instanceMethod y).before args s = true) (hAO : va_AO RS s) (hn1 : va_Nw (.methodLinkNest RK 18 yH_init RK) s) (hn2 : va_Nw (.methodLinkNest RK 51 yS_init RK) s)
    (hK : va_K D vwCl (kTys τ) s) (hP : va_P D vwCl W0 H) (hD : va_D A W0) (hS : va_S A s.heap H locs) (hA : ∀ q, s.heap.size ≤ q → A q) (isC isR : List Nat)
    (hC : isC.map (fun i => W0[i]?) = wc.map some) (hR : isR.map (fun i => W0[i]?) = wr.map some) (hnC : va_nd isC = true) (hn : va_nd isR = true) (hdis : ∀ i ∈ isR, i ∉ isC)
    (hsize : ls.size = nL) (hcat : (rest.map fun v => v.category).sum ≤ 8) (hcs : cells + mc ≤ R.cells ∧ slots + ms ≤ R.slots) (hdg : decode cc pc = .ok (.invokespecial index, 3))
    (kk : ∀ (u : Nat → Nat) (H1 : Heap) (locs1 : List Loc), va_P D vwCl (wr ++ w' u) H1 → va_D A (wr ++ w' u) → va_S A s.heap H1 locs1 → W p l e R s m args below meth c H1 locs1 (cells + mc) (slots + ms) Q (F0 m (pc + 3) ls rest)) : W p l e R s m args below meth c H locs cells slots Q (F0 m pc ls (.ref b :: rest)) := by
  have hPc := hP.sub (ws' := wc) isC (k_fm hC)
  have hDc := hD.sub (ws' := wc) isC hnC hC
  exact kc_run (b := b) (va_runI (As := []) (rest := rest) S (hM H.size) cw ⟨kPcK_blind, fun U hU hW => ⟨⟨rfl, by rw [hU], by rw [hU]; exact hPc, va_K.moved hW.alike hK, hDc.weaken (fun _ _ _ _ => trivial)⟩, va_AO.moved hW.alike hAO, va_Nw.warmM hW hn1, va_Nw.warmM hW hn2⟩⟩ rfl rfl hsize rfl (lv_room hcat) hdg hcs) hP hD hS hA isC isR hC hR hn hdis kk
set_option maxHeartbeats 40000000 in
set_option maxRecDepth 100000 in
/-- the law from its entry, given that class and reference answer alike -/
theorem law_start {p : Program} {e : Env} {s : State} {m : MethodId} {below : List Frame} {meth : Method} {c : Code} (l : Launch) {b L : Nat} {xs : Nat → Int32} (hL : L ≤ 2048) (C0 : lw_At p s m meth c b L xs) (R : kSt → mT → Prop) (hR : kSim R) : W p l e room_1 s m #[Value.ref b] below meth c s.heap [] 0 0 (lw_Z below #[Value.ref b] s) (entryFrame m ([Value.ref b] : List Value).toArray 4) := by
  obtain ⟨hx, hb, hr, hml, hown, htl, hX, hbl, hlocks, hgv⟩ := id C0
  have hts : ∀ w ∈ kTbl, w.before #[Value.ref b] s = true := fun w h => htl w (List.mem_filter.mp h).1
  have hA : ∀ q : Nat, s.heap.size ≤ q → (fun q : Nat => s.heap.size ≤ q) q := fun _ h => h
  obtain ⟨c0, i0, n0⟩ := u_known (C := RH) (T := TH) (N := 6) (n := 6) hts iH (hts _ w_41)
  obtain ⟨c1, i1, n1⟩ := u_known (C := RL) (T := TL) (N := 4) (n := 4) hts iL (hts _ w_69)
  obtain ⟨c2, i2, n2⟩ := u_known (C := RN) (T := TN) (N := 3) (n := 3) hts iN (hts _ w_17)
  obtain ⟨c3, i3, n3⟩ := u_known (C := RS) (T := TS) (N := 4) (n := 4) hts iS (hts _ w_97)
  obtain ⟨c4, i4, n4⟩ := u_known (C := RK) (T := TK) (N := 8) (n := 8) hts iK (hts _ w_9)
  obtain ⟨c5, i5, n5⟩ := u_known (C := RM) (T := TM) (N := 24) (n := 24) hts iM (hts _ w_325)
  have hAO : va_AO RS s := va_AO.of (A := #[Value.ref b]) (htl (Cond.arrayOver (.object RS)) (List.mem_append_right _ (List.mem_of_getElem? (i := 67) (by decide +kernel))))
  have hn1 : va_Nw (.methodLinkNest RK 18 yH_init RK) s := va_Nw.of rfl (htl (Cond.methodLinkNest RK 18 yH_init RK) (List.mem_append_right _ (List.mem_of_getElem? (i := 42) (by decide +kernel))))
  have hn2 : va_Nw (.methodLinkNest RK 51 yS_init RK) s := va_Nw.of rfl (htl (Cond.methodLinkNest RK 51 yS_init RK) (List.mem_append_right _ (List.mem_of_getElem? (i := 98) (by decide +kernel))))
  obtain ⟨cI, kI, pI, a1, a2, a3⟩ := Cond.arrayClass_spec (hts _ w_39)
  obtain ⟨pS, cS, kS, e1, e2, e3, e4, e5⟩ := Cond.arrayOver_spec hAO
  obtain ⟨D, hKc⟩ : ∃ (D : va_G), ∀ (k : Nat) (q : vw_C), vwCl[k]? = some q → u_Kn s q.1 q.2.1 q.2.2 (D.1 k) (D.2 k) := by
    refine ⟨(fun k => match k with | 0 => c0 | 1 => c1 | 2 => c2 | 3 => c3 | 4 => c4 | _ => c5, fun k => match k with | 0 => i0 | 1 => i1 | 2 => i2 | 3 => i3 | 4 => i4 | _ => i5), ?_⟩
    intro k q hq
    match k, hq with
    | 0, hq => cases hq; exact n0
    | 1, hq => cases hq; exact n1
    | 2, hq => cases hq; exact n2
    | 3, hq => cases hq; exact n3
    | 4, hq => cases hq; exact n4
    | 5, hq => cases hq; exact n5
    | k + 6, hq => simp [vwCl] at hq
  obtain ⟨τ, hK⟩ : ∃ τ : Nat → ClassId, va_K D vwCl (kTys τ) s := by
    refine ⟨fun k => if k = 0 then cI else cS, hKc, fun k q hq => ?_⟩
    match k, hq with
    | 0, hq => cases hq; exact ⟨fun n z => ⟨(fun k h => by cases h), kI, a2, pI, a3⟩, a1⟩
    | 1, hq => cases hq; exact ⟨fun n z => ⟨(fun k h => by cases h), kS, e3, pS, e4⟩, kS, pS, e3, e4, e1, e5⟩
    | k + 2, hq => simp [kTys] at hq
  have hS : va_S (fun q : Nat => s.heap.size ≤ q) s.heap s.heap [] := va_S.rf
  have hP : va_P D vwCl [] s.heap := fun k q h => by simp at h
  have hD : va_D (fun q : Nat => s.heap.size ≤ q) [] := ⟨fun i j p q h => by simp at h, fun k q h => by simp at h⟩
  have hl := lv_entry ([.ref b]) (n := 4) (Nat.le_of_ble_eq_true rfl)
  rw [lg_entry_eq]
  generalize (lg_sl ([.ref b]) ++ List.replicate (4 - (lg_sl ([.ref b])).length) Slot.unset).toArray = ls at hl ⊢
  have hl : lv_has ls 4 [(0, .ref b)] := hl
  refine va_new (ci := 4) (fs := [.null, .null, .null, .null, .null, .int 0, .int 0, .int 0]) (C := RK) (T := TK) (N := 8) hx hb hts iK tyK tyK_ok hown (hts _ w_8) (hts _ w_9) (hts _ w_1) hK hP hD hS hA rfl (fun j hj => by rcases (show j = 0 ∨ j = 1 ∨ j = 2 ∨ j = 3 ∨ j = 4 ∨ j = 5 ∨ j = 6 ∨ j = 7 by omega) with rfl | rfl | rfl | rfl | rfl | rfl | rfl | rfl <;> rfl) (Nat.le_of_ble_eq_true rfl) (Nat.le_of_ble_eq_true rfl) dW_law_0 (fun q1 H hP hD hS => ?_)
  have hP : va_P D vwCl [(q1, .inr (4, [.null, .null, .null, .null, .null, .int 0, .int 0, .int 0]))] H := hP
  have hD : va_D (fun q : Nat => s.heap.size ≤ q) [(q1, .inr (4, [.null, .null, .null, .null, .null, .int 0, .int 0, .int 0]))] := hD
  refine lv_dup hx hb dW_law_3 rfl ?_
  refine kc_IK (rest := [.ref q1]) (wr := []) ⟨hx, hb, hml, hown, hts⟩ (ci_kp l D τ q1) (kcwI hts kK_init w_10 w_11 w_1 rfl rfl rfl (by decide +kernel) ⟨Nat.le_of_ble_eq_true rfl, Nat.le_of_ble_eq_true rfl⟩) hAO hn1 hn2 hK hP hD hS hA [0] [] rfl rfl (by decide) (by decide) (by decide) hl.1 (Nat.le_of_ble_eq_true rfl) ⟨Nat.le_of_ble_eq_true rfl, Nat.le_of_ble_eq_true rfl⟩ dW_law_4 (fun u1 H locs hP hD hS => ?_)
  have hP : va_P D vwCl (wKP τ (kCons q1 u1) kS0) H := hP
  have hD : va_D (fun q : Nat => s.heap.size ≤ q) (wKP τ (kCons q1 u1) kS0) := hD
  refine lv_astore_n (lv' := [(1, .ref q1), (0, .ref b)]) hx hb dW_law_7 rfl hl (by decide) rfl (fun ls hl => ?_)
  refine va_new (ci := 5) (fs := [.int 0, .int 0, .null, .null, .null, .null, .null, .null, .null, .null, .null, .null, .null, .null, .null, .null, .int 0, .null, .null, .null, .int 0, .int 0, .int 0, .null]) (C := RM) (T := TM) (N := 24) hx hb hts iM tyM tyM_ok hown (hts _ w_324) (hts _ w_325) (hts _ w_7) hK hP hD hS hA rfl (fun j hj => by rcases (show j = 0 ∨ j = 1 ∨ j = 2 ∨ j = 3 ∨ j = 4 ∨ j = 5 ∨ j = 6 ∨ j = 7 ∨ j = 8 ∨ j = 9 ∨ j = 10 ∨ j = 11 ∨ j = 12 ∨ j = 13 ∨ j = 14 ∨ j = 15 ∨ j = 16 ∨ j = 17 ∨ j = 18 ∨ j = 19 ∨ j = 20 ∨ j = 21 ∨ j = 22 ∨ j = 23 by omega) with rfl | rfl | rfl | rfl | rfl | rfl | rfl | rfl | rfl | rfl | rfl | rfl | rfl | rfl | rfl | rfl | rfl | rfl | rfl | rfl | rfl | rfl | rfl | rfl <;> rfl) (Nat.le_of_ble_eq_true rfl) (Nat.le_of_ble_eq_true rfl) dW_law_8 (fun q2 H hP hD hS => ?_)
  refine lv_dup hx hb dW_law_11 rfl ?_
  refine kc_IL (rest := [.ref q2]) ⟨hx, hb, hml, hown, hts⟩ (ci_model l D τ q2) (kcwI hts kM_init w_326 w_327 w_7 rfl rfl rfl (by decide +kernel) ⟨Nat.le_of_ble_eq_true rfl, Nat.le_of_ble_eq_true rfl⟩) hK hP hD hS hA hl.1 (Nat.le_of_ble_eq_true rfl) ⟨Nat.le_of_ble_eq_true rfl, Nat.le_of_ble_eq_true rfl⟩ dW_law_12 (fun u2 H locs hP hD hS => ?_)
  have hP : va_P D vwCl (wKP τ (kCons q1 u1) kS0 ++ wM τ (kCons q2 u2) mT0) H := hP
  have hD : va_D (fun q : Nat => s.heap.size ≤ q) (wKP τ (kCons q1 u1) kS0 ++ wM τ (kCons q2 u2) mT0) := hD
  refine W.widen (k := 60) (n := 9143) (Nat.le_of_ble_eq_true rfl) (Nat.le_of_ble_eq_true rfl) ?_
  refine lv_astore_n (lv' := [(2, .ref q2), (1, .ref q1), (0, .ref b)]) hx hb dW_law_15 rfl hl (by decide) rfl (fun ls hl => ?_)
  refine lv_iconst (v := 0) hx hb dW_law_16 (by decide) ?_
  refine lv_istore_n (lv' := [(3, .int 0), (2, .ref q2), (1, .ref q1), (0, .ref b)]) hx hb dW_law_17 rfl hl (by decide) rfl (fun ls hl => ?_)
  exact law_loop hL C0 hK R hR L 0 (by omega) (by omega) (kCons q1 u1) (kCons q2 u2) kS0 mT0 hR.2.1 H locs hP hD hS ls (lv_sub hl [3, 2, 1, 0] rfl)
