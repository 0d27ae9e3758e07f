section KFULL
variable {p : Program} {l : Launch} {e : Env} {R : Room} {s : State} {m : MethodId} {args : Array Value} {below : List Frame} {meth : Method} {c : Code} {H : Heap} {locs : List Loc} {cells slots : Nat} {Q : State → Prop} {cc : ByteArray} {D : va_G} {τ : Nat → ClassId} {A : Nat → Prop} {pc : Nat} {ls : Array Slot} {rest : List Value}
/-- a call over all cells that are known -/
theorem kc_ViF {nL : Nat} {Ts ws' : List Cond} {own C : String} {y : MethodName} {rm : Room} {bytes : ByteArray} {maxL n index ci N b : Nat} {ret : Option FieldType} {As fs st0 : List Value} {T : u_T} {wc wc' : va_W} {r : Int32}
    (S : CallFix p m c cc nL s args Ts own) (hM : kMi l D τ y ws' rm (.ref b :: As) wc r wc') (cw : CallW R s args own C index y bytes maxL ret ws' rm 0 0 n) (hK : va_K D vwCl (kTys τ) s) (hP : va_P D vwCl wc H) (hD : va_D A wc) (hS : va_S A s.heap H locs) (hA : ∀ q, s.heap.size ≤ q → A q)
    (hc : vwCl[ci]? = some (C, T, N)) (he : wc[0]? = some (b, .inr (ci, fs)))
    (hsize : ls.size = nL) (hlen : As.length = n) (hst : st0 = As.reverse ++ .ref b :: rest) (hcat : (rest.map fun v => v.category).sum ≤ 8) (hcs : cells + 0 ≤ R.cells ∧ slots + 0 ≤ R.slots) (hdg : decode cc pc = .ok (.invokevirtual index, 3))
    (kk : ∀ (H1 : Heap) (locs1 : List Loc), va_P D vwCl wc' H1 → va_D A wc' → va_S A s.heap H1 locs1 → W p l e R s m args below meth c H1 locs1 cells slots Q (F0 m (pc + 3) ls (.int r :: rest))) : W p l e R s m args below meth c H locs cells slots Q (F0 m pc ls st0) := by
  have hFc : ∀ q, va_A wc H.size q → A q := by
    intro q h
    rcases h with ⟨k, e9, h⟩ | h
    · exact hD.2 k _ h
    · exact hA q (Nat.le_trans hS.1 h)
  refine va_calli (va_runV (As := As) (rest := rest) S (hM H.size) cw ⟨kPc_blind, va_recv hK hP hc he, fun U hU hW => ⟨rfl, by rw [hU], by rw [hU]; exact hP, va_K.moved hW.alike hK, hD.weaken (fun _ _ _ _ => trivial)⟩⟩ rfl hlen hsize hst (lv_room hcat) hdg hcs) hS (fun q _ h => hFc q h) hFc (fun r1 u t H1 locs1 ht hvm hw hB hz1 hk1 hS1 => ?_)
  obtain ⟨hP1, hK1, hD1⟩ := hB
  rw [ht] at hP1
  have hw : r1 = r := hw
  subst hw
  exact kk H1 locs1 hP1 ⟨hD1.1, fun k q h => hFc _ (hD1.2 k q h)⟩ hS1
end KFULL
section KFULL2
variable {p : Program} {l : Launch} {e : Env} {R : Room} {s : State} {m : MethodId} {args : Array Value} {below : List Frame} {meth : Method} {c : Code} {H : Heap} {locs : List Loc} {cells slots : Nat} {Q : State → Prop} {cc : ByteArray} {D : va_G} {τ : Nat → ClassId} {A : Nat → Prop} {pc : Nat} {ls : Array Slot} {rest : List Value}
theorem kc_VvF {nL : Nat} {Ts ws' : List Cond} {own C : String} {y : MethodName} {rm : Room} {bytes : ByteArray} {maxL n index ci N b : Nat} {ret : Option FieldType} {As fs st0 : List Value} {T : u_T} {wc wc' : va_W}
    (S : CallFix p m c cc nL s args Ts own) (hM : kMv l D τ y ws' rm (.ref b :: As) wc wc') (cw : CallW R s args own C index y bytes maxL ret ws' rm 0 0 n) (hK : va_K D vwCl (kTys τ) s) (hP : va_P D vwCl wc H) (hD : va_D A wc) (hS : va_S A s.heap H locs) (hA : ∀ q, s.heap.size ≤ q → A q)
    (hc : vwCl[ci]? = some (C, T, N)) (he : wc[0]? = some (b, .inr (ci, fs)))
    (hsize : ls.size = nL) (hlen : As.length = n) (hst : st0 = As.reverse ++ .ref b :: rest) (hcat : (rest.map fun v => v.category).sum ≤ 8) (hcs : cells + 0 ≤ R.cells ∧ slots + 0 ≤ R.slots) (hdg : decode cc pc = .ok (.invokevirtual index, 3))
    (kk : ∀ (H1 : Heap) (locs1 : List Loc), va_P D vwCl wc' H1 → va_D A wc' → va_S A s.heap H1 locs1 → W p l e R s m args below meth c H1 locs1 cells slots Q (F0 m (pc + 3) ls rest)) : W p l e R s m args below meth c H locs cells slots Q (F0 m pc ls st0) := by
  have hFc : ∀ q, va_A wc H.size q → A q := by
    intro q h
    rcases h with ⟨k, e9, h⟩ | h
    · exact hD.2 k _ h
    · exact hA q (Nat.le_trans hS.1 h)
  refine va_callv (va_runV (As := As) (rest := rest) S (hM H.size) cw ⟨kPc_blind, va_recv hK hP hc he, fun U hU hW => ⟨rfl, by rw [hU], by rw [hU]; exact hP, va_K.moved hW.alike hK, hD.weaken (fun _ _ _ _ => trivial)⟩⟩ rfl hlen hsize hst (lv_room hcat) hdg hcs) hS (fun q _ h => hFc q h) hFc (fun u t H1 locs1 ht hvm hw hB hz1 hk1 hS1 => ?_)
  obtain ⟨hP1, hK1, hD1⟩ := hB
  rw [ht] at hP1
  exact kk H1 locs1 hP1 ⟨hD1.1, fun k q h => hFc _ (hD1.2 k q h)⟩ hS1
end KFULL2
