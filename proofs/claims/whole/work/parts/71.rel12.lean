/-! the start, and the claim -/
theorem kNo_ok : kOkn 0 kNo := by
  refine ⟨⟨by omega, fun u v _ _ => Or.inl rfl⟩, fun v h c w => ?_⟩
  cases h with
  | zero => rw [w.2]; exact Int.le_refl 0
  | succ h =>
    obtain ⟨u, x, a, -⟩ := w
    exact absurd (kG_some.mp a).1.1 (Nat.not_lt_zero _)
theorem kR_0 : kR kS0 mT0 := by
  have hT := mSet_ok (len := kNo) ((0, fun _ => 1000000, fun _ => (-1)), (fun _ => 0, fun _ => 0, fun _ => 0, fun _ => 0, fun _ => 0), (fun _ => 0, fun _ => 0, fun _ => 0, fun _ => 0, fun _ => 0, fun _ => 0, fun _ => 0), (0, fun _ => 0, fun _ => 0, fun _ => 0), (0, 0, 0, 0, fun _ => 0)) kNo_ok.1 (fun u v _ _ => kTo_n1.symm) kNo_ok.2 (fun q hq => Or.inl (show ((-1) : Int32) < 0 by decide))
  obtain ⟨m1, m2, m3⟩ := mSet_eq ((0, fun _ => 1000000, fun _ => (-1)), (fun _ => 0, fun _ => 0, fun _ => 0, fun _ => 0, fun _ => 0), (fun _ => 0, fun _ => 0, fun _ => 0, fun _ => 0, fun _ => 0, fun _ => 0, fun _ => 0), (0, fun _ => 0, fun _ => 0, fun _ => 0), (0, 0, 0, 0, fun _ => 0))
  have hV : kVn kS0 = kNo := kUn_0 rfl
  refine ⟨⟨?_, kNo_ok, ?_, ?_⟩, ⟨?_, ?_, ?_⟩, fun z hz => ?_, ⟨?_, ?_⟩, ?_⟩
  · unfold mT0; rw [m1]; rfl
  · unfold mT0; rw [m1]; exact fun u v _ _ => kTo_n1.symm
  · unfold mT0; rw [m1]
    exact (kItr_id 576 0 (fun k _ x => by unfold mArcs; exact kIf_t rfl)).symm
  · unfold mT0; rw [m3]; rfl
  · unfold mT0; rw [m3]
    exact ⟨by decide, by decide, fun i hi => absurd hi (Nat.not_lt_zero _), 0, rfl, fun _ => rfl, fun y => absurd rfl y, by decide, fun r hr => absurd hr (Nat.not_lt_zero _)⟩
  · rw [hV]; exact kNo_ok
  · rw [hV]
    unfold mT0
    rw [m1, m2]
    have hrow := hT.1 z hz
    have es : kSettle 0 kNo (-1) = (kNo, kNo, kNo, 0) := kSettle_no
    have hrow : mRow (kSettle 0 kNo (-1)) _ _ _ _ z := hrow
    rw [es] at hrow
    have key : kSel kS0 z = ((-1), 0, (kNo, kNo, kNo, 0), (kNo, kNo, kNo, 0)) := by
      rcases (show z = 0 ∨ z = 1 ∨ z = 2 by omega) with rfl | rfl | rfl <;> rfl
    rw [key]
    refine ⟨rfl, Or.inl rfl, rfl, hrow, ?_⟩
    show kEqW (kNo, kNo, kNo, 0) (kSettle 0 kNo (-1))
    rw [es]; exact kEqW_r _
  · unfold mT0; rw [m3]; rfl
  · unfold mT0; rw [m3]; rfl
  · unfold mT0; rw [m3]
    exact ⟨rfl, 0, by omega, rfl, fun i hi => absurd hi (Nat.not_lt_zero _)⟩
theorem kR_sim : kSim kR :=
  ⟨fun S T h => ⟨kR_kOK h, kR_mOK h⟩, kR_0, fun S T h => kR_th h, fun S T h => kR_node h, fun S T k v h => kR_source k v h, fun S T a b x h => kR_put a b x h, fun S T a b h => kR_take a b h, fun S T a b h => kR_arc a b h, fun S T h => kR_begin h, fun S T h => kR_end h, fun S T h => kR_undo h, fun S T k v h => (kR_dist k v h).1, fun S T k v h => (kR_dist k v h).2.1, fun S T k v h => (kR_dist k v h).2.2, fun S T k v i h => kR_way k v i h, fun S T k h => (kR_aff k h).1, fun S T k h => (kR_aff k h).2, fun S T i h => kR_ring i h, fun S T w h => kR_count w h⟩
theorem whole_start {p : Program} {e : Env} {s : State} {m : MethodId} {below : List Frame} {meth : Method} {c : Code} (l : Launch) {b L : Nat} {xs : Nat → Int32} (hL : L ≤ 2048) (C0 : lw_At p s m meth c b L xs) : W p l e room_1 s m #[Value.ref b] below meth c s.heap [] 0 0 (lw_Z below #[Value.ref b] s) (entryFrame m ([Value.ref b] : List Value).toArray 4) := law_start l hL C0 kR kR_sim
