/-! the law: two worlds side by side -/
theorem k_left {X Y : va_W} {k : Nat} {q : Nat × va_E} (h : X[k]? = some q) : (X ++ Y)[k]? = some q := by
  rw [List.getElem?_append_left (List.getElem?_eq_some_iff.mp h).1]; exact h
theorem k_right {X Y : va_W} {k : Nat} {q : Nat × va_E} (h : Y[k]? = some q) : (X ++ Y)[X.length + k]? = some q := by
  rw [List.getElem?_append_right (by omega), Nat.add_sub_cancel_left]; exact h
theorem k_apart {D : va_G} {cl : List vw_C} {A : Nat → Prop} {X Y : va_W} {H : Heap} (hP : va_P D cl (X ++ Y) H) (hD : va_D A (X ++ Y)) {k : Nat} {q : Nat × va_E} (h : Y[k]? = some q) : q.1 < H.size ∧ ¬ va_A X H.size q.1 := by
  have hl := (hP _ q (k_right h)).lt
  refine ⟨hl, fun g => ?_⟩
  rcases g with ⟨k2, e, g⟩ | g
  · have := hD.1 _ _ _ _ (k_right (X := X) h) (k_left (Y := Y) g) rfl
    have := (List.getElem?_eq_some_iff.mp g).1
    omega
  · omega
theorem k_flip {D : va_G} {cl : List vw_C} {A : Nat → Prop} {X X' Y : va_W} {H H1 : Heap} (hP : va_P D cl (X ++ Y) H) (hD : va_D A (X ++ Y)) (hk : ∀ q : Nat, q < H.size → ¬ va_A X H.size q → H1[q]? = H[q]?) (hF : ∀ q, va_A X H.size q → A q) (hP1 : va_P D cl X' H1) (hD1 : va_D (va_A X H.size) X') : va_P D cl (Y ++ X') H1 ∧ va_D A (Y ++ X') := by
  refine ⟨va_P.app (fun k q hq => ?_) hP1, va_D.app ⟨fun i j x y hx hy e => ?_, fun k q hq => hD.2 _ _ (k_right hq)⟩ (hD1.weaken (fun k q _ h => hF q.1 h)) (fun i j x y hx hy hxy => ?_)⟩
  · obtain ⟨g1, g2⟩ := k_apart hP hD hq
    exact (hP _ q (k_right hq)).kept (hk q.1 g1 g2)
  · have := hD.1 _ _ _ _ (k_right (X := X) hx) (k_right (X := X) hy) e
    omega
  · exact (k_apart hP hD hx).2 (by rw [hxy]; exact hD1.2 j y hy)
section KLAW
variable {p : Program} {l : Launch} {e : Env} {R : Room} {s : State} {m : MethodId} {args : Array Value} {below : List Frame} {meth : Method} {c : Code} {H : Heap} {locs : List Loc} {cells slots : Nat} {Q : State → Prop} {cc : ByteArray} {D : va_G} {τ : Nat → ClassId} {A : Nat → Prop} {pc : Nat} {ls : Array Slot} {rest : List Value}
/-- a call over the first of two worlds: it comes behind the other -/
theorem kc_L {nL : Nat} {Ts ws' : List Cond} {own C : String} {y : MethodName} {rm : Room} {bytes : ByteArray} {maxL n index ci N b : Nat} {ret : Option FieldType} {As st0 : List Value} {T : u_T} {X X' Y : va_W} {r : Int32}
    (S : CallFix p m c cc nL s args Ts own) (hM : kMi l D τ y ws' rm (.ref b :: As) X r X') (cw : CallW R s args own C index y bytes maxL ret ws' rm 0 0 n) (hK : va_K D vwCl (kTys τ) s) (hP : va_P D vwCl (X ++ Y) H) (hD : va_D A (X ++ Y)) (hS : va_S A s.heap H locs) (hA : ∀ q, s.heap.size ≤ q → A q)
    (hc : vwCl[ci]? = some (C, T, N)) (he : ∃ fs, X[0]? = some (b, .inr (ci, fs)))
    (hsize : ls.size = nL) (hlen : As.length = n) (hst : st0 = As.reverse ++ .ref b :: rest) (hcat : (rest.map fun v => v.category).sum ≤ 8) (hcs : cells + 0 ≤ R.cells ∧ slots + 0 ≤ R.slots) (hdg : decode cc pc = .ok (.invokevirtual index, 3))
    (kk : ∀ (H1 : Heap) (locs1 : List Loc), va_P D vwCl (Y ++ X') H1 → va_D A (Y ++ X') → va_S A s.heap H1 locs1 → W p l e R s m args below meth c H1 locs1 cells slots Q (F0 m (pc + 3) ls (.int r :: rest))) : W p l e R s m args below meth c H locs cells slots Q (F0 m pc ls st0) := by
  obtain ⟨fs, he⟩ := he
  have hPX : va_P D vwCl X H := fun k q hq => hP k q (k_left hq)
  have hDX : va_D A X := ⟨fun i j x y hx hy e => hD.1 i j x y (k_left hx) (k_left hy) e, fun k q hq => hD.2 k q (k_left hq)⟩
  have hFc : ∀ q, va_A X H.size q → A q := by
    intro q h
    rcases h with ⟨k, e9, h⟩ | h
    · exact hDX.2 k _ h
    · exact hA q (Nat.le_trans hS.1 h)
  refine va_calli (va_runV (As := As) (rest := rest) S (hM H.size) cw ⟨kPc_blind, va_recv hK hPX hc he, fun U hU hW => ⟨rfl, by rw [hU], by rw [hU]; exact hPX, va_K.moved hW.alike hK, hDX.weaken (fun _ _ _ _ => trivial)⟩⟩ rfl hlen hsize hst (lv_room hcat) hdg hcs) hS (fun q _ h => hFc q h) hFc (fun r1 u t H1 locs1 ht hvm hw hB hz1 hk1 hS1 => ?_)
  obtain ⟨hP1, hK1, hD1⟩ := hB
  rw [ht] at hP1
  have hw : r1 = r := hw
  subst hw
  obtain ⟨hP2, hD2⟩ := k_flip hP hD hk1 hFc hP1 hD1
  exact kk H1 locs1 hP2 hD2 hS1
end KLAW
def kOK (S : kSt) : Prop := (S.1.1 ≤ 24 ∧ S.2.1.1 ≤ 40 ∧ S.2.1.2.1 < 41) ∧ (∃ q, q ≤ 30 ∧ S.2.1.2.2.1 ((S.2.1.2.1 + S.2.1.1) % 41) = nI q ∧ (S.2.2.2.2.1.1 = 0 → q = 0)) ∧ (∀ j, j < S.1.1 → kLwOk (kSettle S.1.1 S.1.2.2 (nI j))) ∧
  (0 < S.2.1.1 → ∃ q, q ≤ 30 ∧ S.2.1.2.2.1 ((S.2.1.2.1 + (S.2.1.1 - 1)) % 41) = nI q ∧ ∀ r, r < q → ∃ a b, a < 24 ∧ b < 24 ∧ S.2.1.2.2.2.1 (((S.2.1.2.1 + (S.2.1.1 - 1)) % 41) * 30 + r) = nI a ∧ S.2.1.2.2.2.2.1 (((S.2.1.2.1 + (S.2.1.1 - 1)) % 41) * 30 + r) = nI b) ∧
  kLwOk (kSel S 0).2.2.1 ∧ kLwOk (kSel S 1).2.2.1 ∧ kLwOk (kSel S 2).2.2.1 ∧ (∃ M, M ≤ 24 ∧ S.2.2.2.1.2 = nI M)
def mOK (T : mT) : Prop := T.1.1 ≤ 24 ∧ (∀ q, q < 3 → T.1.2.2 q < 0 ∨ ∃ j, j < T.1.1 ∧ T.1.2.2 q = nI j) ∧ T.2.2.2.1.1 ≤ 40 ∧ (¬ T.2.2.2.2.2.1 = 0 → ∃ S, S ≤ 30 ∧ T.2.2.2.1.2.1 T.2.2.2.1.1 = nI S) ∧
  (∀ i j, i < T.1.1 → j < T.1.1 → ¬ i = j → mRok (mFb T i j) T.2.2.2.2.2.2.2.2 i ((mFb T i j).2.2.1 i).toNatClampNeg) ∧
  (0 < T.2.2.2.1.1 → ∃ S, S ≤ 30 ∧ T.2.2.2.1.2.1 (T.2.2.2.1.1 - 1) = nI S ∧ ∀ q, q < S → ∃ a, a < 576 ∧ T.2.2.2.1.2.2.1 ((T.2.2.2.1.1 - 1) * 30 + q) = nI a) ∧
  (∀ z v, z < 3 → v < T.1.1 → T.2.1.2.1 (z * 24 + v) = (-1000000) ∨ ∃ M, M < 24 ∧ T.2.1.2.1 (z * 24 + v) = nI M ∧ ∀ k, k ≤ M → ∃ u, u < 24 ∧ kItr (mWb T.2.1.2.2.1 z) k (nI v) = nI u) ∧ (∃ M, M ≤ 24 ∧ T.2.2.2.2.2.2.2.1 = nI M)
