/-! constructors: contracts that bring new cells -/
def kL (xs : List Nat) (i : Nat) : Nat := xs.getD i 0
def kMn (l : Launch) (D : va_G) (τ : Nat → ClassId) (y : MethodName) (ws : List Cond) (rm : Room) (av : List Value) (w : va_W) (w' : (Nat → Nat) → va_W) (mc ms : Nat) : Prop :=
  ∀ sz : Nat, Met l y ws rm (kPc D τ av w sz) (va_Qv (fun (_ : Nat → Nat) => True) (fun u t => kWd D τ (va_A w sz) (w' u) t) (va_A w sz)) mc ms (va_A w sz)
theorem kInt_eq {D : va_G} {cl : List vw_C} {τ : Nat → ClassId} {s : State} {cA : ClassId} (hK : va_K D cl (kTys τ ++ [(cA, .int)]) s) : cA = τ 0 :=
  Option.some.inj ((hK.2 2 _ rfl).2.symm.trans (hK.2 0 _ rfl).2)
theorem kSrc_eq {D : va_G} {cl : List vw_C} {τ : Nat → ClassId} {s : State} {cA : ClassId} (hK : va_K D cl (kTys τ ++ [(cA, .object "KeptPaths$Source")]) s) : cA = τ 1 := by
  obtain ⟨-, kA, c1, h1, h2, h3, h4⟩ := hK.2 2 _ rfl
  obtain ⟨-, kB, c2, g1, g2, g3, g4⟩ := hK.2 1 _ rfl
  exact Option.some.inj (h4.symm.trans g4)
theorem kP_reQ {D : va_G} {cl : List vw_C} {ws : va_W} {H : Heap} (hP : va_P D cl ws H) (k : Nat) {a n : Nat} {cA : ClassId} {f g : Nat → Option Nat} (hk : ws[k]? = some (a, .inl (cA, n, .inr (.inr (.inr (.inr f)))))) (h : ∀ j, j < n → f j = g j) : va_P D cl (ws.set k (a, .inl (cA, n, .inr (.inr (.inr (.inr g)))))) H := by
  have e : vp_cell cA (n, .inr (.inr (.inr (.inr f)))) = vp_cell cA (n, .inr (.inr (.inr (.inr g)))) := by
    rw [vp_cell_q, vp_cell_q]
    unfold arrV
    congr 1
    congr 1
    funext j
    show va_rf (f j.val) = va_rf (g j.val)
    rw [h j.val j.isLt]
  intro i q hi
  by_cases z : i = k
  · subst z
    have hlt : i < ws.length := (List.getElem?_eq_some_iff.mp hk).1
    rw [List.getElem?_set_self hlt] at hi
    cases hi
    have := hP i _ hk
    show H[a]? = some (vp_cell cA (n, .inr (.inr (.inr (.inr g)))))
    rw [← e]
    exact this
  · rw [List.getElem?_set_ne (fun q => z q.symm)] at hi
    exact hP i q hi
section KINIT
variable {p : Program} {l : Launch} {e : Env} {R : Room} {s : State} {m : MethodId} {args : Array Value} {below : List Frame} {meth : Method} {c : Code} {H : Heap} {locs : List Loc} {cells slots : Nat} {Q : State → Prop} {cc : ByteArray} {D : va_G} {τ : Nat → ClassId} {A : Nat → Prop} {pc : Nat} {ls : Array Slot} {rest : List Value}
theorem k_nret (hx : p.tables.exec = Jvm.exec) (hb : c.code = cc) (hr : meth.sig.returnType = none) (hlocks : meth.locks = false) (hK : va_K D vwCl (kTys τ) s) (hS : va_S A s.heap H locs) {w : (Nat → Nat) → va_W} (u : Nat → Nat) (hP : va_P D vwCl (w u) H) (hD : va_D A (w u)) (hdg : decode cc pc = .ok (.return_, 1)) :
    W p l e R s m args below meth c H locs cells slots (MQ below (va_Qv (fun (_ : Nat → Nat) => True) (fun u t => kWd D τ A (w u) t) A) args s cells slots A) (F0 m pc ls []) :=
  W.vret hx hb hr (fun t ht hW => ⟨⟨u, rfl, trivial, by rw [ht]; exact hP, va_K.moved hW.alike hK, hD⟩, hS.F ht⟩) hS.2.2 hdg hlocks
theorem kcwI {R : Room} {s : State} {args : Array Value} {own : String} {index mc ms : Nat} {y : MethodName} {bytes : ByteArray} {maxL : Nat} {rm : Room} (hts : ∀ w ∈ kTbl, w.before args s = true) (hc : Cond.code y bytes maxL none ∈ kTbl) (hl : Cond.methodLink own index y ∈ kTbl) (hin : Cond.instanceMethod y ∈ kTbl) (hini : Cond.initialized y.cls ∈ kTbl) (hy : y.name = "<init>") (hrc : rm.cells = mc) (hrs : rm.slots = ms)
    (hd : y.cls ≠ "java/lang/invoke/MethodHandle" ∧ y.cls ≠ "java/lang/invoke/VarHandle" ∧ (parseMethodDescriptor y.desc).map (fun d => d.parameters.length) = some 0) (hR : rm.frames + 1 ≤ R.frames ∧ 8 + (maxL + 11) + rm.locals ≤ R.locals) :
    CallB R s args own index y bytes maxL none (kWs y bytes maxL none) rm mc ms 0 ∧ y.name = "<init>" ∧ (Cond.instanceMethod y).before args s = true :=
  ⟨callB_of 0 hts (kGoodIn hc) rfl hrc hrs (hts _ hini) (hts _ hl) hd hR, hy, hts _ hin⟩
theorem kcwIN {R : Room} {s : State} {args : Array Value} {own host : String} {index mc ms : Nat} {y : MethodName} {bytes : ByteArray} {maxL : Nat} {rm : Room} (hts : ∀ w ∈ kTbl, w.before args s = true) (hc : Cond.code y bytes maxL none ∈ kTbl) (hl : va_Nw (.methodLinkNest own index y host) s) (hin : Cond.instanceMethod y ∈ kTbl) (hini : Cond.initialized y.cls ∈ kTbl) (hy : y.name = "<init>") (hrc : rm.cells = mc) (hrs : rm.slots = ms)
    (hd : y.cls ≠ "java/lang/invoke/MethodHandle" ∧ y.cls ≠ "java/lang/invoke/VarHandle" ∧ (parseMethodDescriptor y.desc).map (fun d => d.parameters.length) = some 0) (hR : rm.frames + 1 ≤ R.frames ∧ 8 + (maxL + 11) + rm.locals ≤ R.locals) :
    va_CN R s args own index y host bytes maxL none (kWs y bytes maxL none) rm mc ms 0 ∧ y.name = "<init>" ∧ (Cond.instanceMethod y).before args s = true :=
  ⟨va_cnB 0 hts (kGoodIn hc) rfl hrc hrs hl (hts _ hini) hd hR, hy, hts _ hin⟩
/-- what a run of a constructor gives -/
theorem kc_run {nw : List Value} {b : Nat} {wc W0 wr : va_W} {w' : (Nat → Nat) → va_W} {mc ms : Nat} {a : Array Value}
    (hr : va_Run p l e R s m args below meth c H locs cells slots mc ms (F0 m pc ls nw) rest (va_Qv (fun (_ : Nat → Nat) => True) (fun u t => kWd D τ (va_A wc H.size) (w' u) t) (va_A wc H.size) a) (va_A wc H.size))
    (hP : va_P D vwCl W0 H) (hD : va_D A W0) (hS : va_S A s.heap H locs) (hA : ∀ q, s.heap.size ≤ q → A q) (isC isR : List Nat)
    (hC : isC.map (fun i => W0[i]?) = wc.map some) (hR : isR.map (fun i => W0[i]?) = wr.map some) (hn : va_nd isR = true) (hdis : ∀ i ∈ isR, i ∉ isC)
    (kk : ∀ (u : Nat → Nat) (H1 : Heap) (locs1 : List Loc), va_P D vwCl (wr ++ w' u) H1 → va_D A (wr ++ w' u) → va_S A s.heap H1 locs1 → W p l e R s m args below meth c H1 locs1 (cells + mc) (slots + ms) Q (F0 m (pc + 3) ls rest)) : W p l e R s m args below meth c H locs cells slots Q (F0 m pc ls nw) := by
  have hFc := va_free (wc := wc) hD hS hA isC hC
  refine va_callv hr hS (fun q _ h => hFc q h) hFc (fun u t H1 locs1 ht hvm hw hB hz1 hk1 hS1 => ?_)
  obtain ⟨hP1, hK1, hD1⟩ := hB
  rw [ht] at hP1
  obtain ⟨hP2, hD2⟩ := va_join (wr := wr) (w1 := w' u) hP hD isC isR hC hR hn hdis hk1 hFc hP1 hD1
  exact kk u H1 locs1 hP2 hD2 hS1
theorem kc_I {nL : Nat} {own : String} {y : MethodName} {rm : Room} {bytes : ByteArray} {maxL index b mc ms : Nat} {wc W0 wr : va_W} {w' : (Nat → Nat) → va_W}
    (S : CallFix p m c cc nL s args kTbl own) (hM : kMn l D τ y (kWs y bytes maxL none) rm [.ref b] wc w' mc ms) (cw : CallB R s args own index y bytes maxL none (kWs y bytes maxL none) rm mc ms 0 ∧ y.name = "<init>" ∧ (Cond.instanceMethod y).before args s = true) (hK : va_K D vwCl (kTys τ) s) (hP : va_P D vwCl W0 H) (hD : va_D A W0) (hS : va_S A s.heap H locs) (hA : ∀ q, s.heap.size ≤ q → A q) (isC isR : List Nat)
    (hC : isC.map (fun i => W0[i]?) = wc.map some) (hR : isR.map (fun i => W0[i]?) = wr.map some) (hnC : va_nd isC = true) (hn : va_nd isR = true) (hdis : ∀ i ∈ isR, i ∉ isC)
    (hsize : ls.size = nL) (hcat : (rest.map fun v => v.category).sum ≤ 8) (hcs : cells + mc ≤ R.cells ∧ slots + ms ≤ R.slots) (hdg : decode cc pc = .ok (.invokespecial index, 3))
    (kk : ∀ (u : Nat → Nat) (H1 : Heap) (locs1 : List Loc), va_P D vwCl (wr ++ w' u) H1 → va_D A (wr ++ w' u) → va_S A s.heap H1 locs1 → W p l e R s m args below meth c H1 locs1 (cells + mc) (slots + ms) Q (F0 m (pc + 3) ls rest)) : W p l e R s m args below meth c H locs cells slots Q (F0 m pc ls (.ref b :: rest)) := by
  have hPc := hP.sub (ws' := wc) isC (k_fm hC)
  have hDc := hD.sub (ws' := wc) isC hnC hC
  exact kc_run (b := b) (va_runI (As := []) (rest := rest) S (hM H.size) cw ⟨kPc_blind, fun U hU hW => ⟨rfl, by rw [hU], by rw [hU]; exact hPc, va_K.moved hW.alike hK, hDc.weaken (fun _ _ _ _ => trivial)⟩⟩ rfl rfl hsize rfl (lv_room hcat) hdg hcs) hP hD hS hA isC isR hC hR hn hdis kk
theorem kc_IN {nL : Nat} {own host : String} {y : MethodName} {rm : Room} {bytes : ByteArray} {maxL index b mc ms : Nat} {wc W0 wr : va_W} {w' : (Nat → Nat) → va_W}
    (S : CallFix p m c cc nL s args kTbl own) (hM : kMn l D τ y (kWs y bytes maxL none) rm [.ref b] wc w' mc ms) (cw : va_CN R s args own index y host bytes maxL none (kWs y bytes maxL none) rm mc ms 0 ∧ y.name = "<init>" ∧ (Cond.instanceMethod y).before args s = true) (hK : va_K D vwCl (kTys τ) s) (hP : va_P D vwCl W0 H) (hD : va_D A W0) (hS : va_S A s.heap H locs) (hA : ∀ q, s.heap.size ≤ q → A q) (isC isR : List Nat)
    (hC : isC.map (fun i => W0[i]?) = wc.map some) (hR : isR.map (fun i => W0[i]?) = wr.map some) (hnC : va_nd isC = true) (hn : va_nd isR = true) (hdis : ∀ i ∈ isR, i ∉ isC)
    (hsize : ls.size = nL) (hcat : (rest.map fun v => v.category).sum ≤ 8) (hcs : cells + mc ≤ R.cells ∧ slots + ms ≤ R.slots) (hdg : decode cc pc = .ok (.invokespecial index, 3))
    (kk : ∀ (u : Nat → Nat) (H1 : Heap) (locs1 : List Loc), va_P D vwCl (wr ++ w' u) H1 → va_D A (wr ++ w' u) → va_S A s.heap H1 locs1 → W p l e R s m args below meth c H1 locs1 (cells + mc) (slots + ms) Q (F0 m (pc + 3) ls rest)) : W p l e R s m args below meth c H locs cells slots Q (F0 m pc ls (.ref b :: rest)) := by
  have hPc := hP.sub (ws' := wc) isC (k_fm hC)
  have hDc := hD.sub (ws' := wc) isC hnC hC
  exact kc_run (b := b) (va_runIN (As := []) (rest := rest) S (hM H.size) cw ⟨kPc_blind, fun U hU hW => ⟨rfl, by rw [hU], by rw [hU]; exact hPc, va_K.moved hW.alike hK, hDc.weaken (fun _ _ _ _ => trivial)⟩⟩ rfl rfl hsize rfl (lv_room hcat) hdg hcs) hP hD hS hA isC isR hC hR hn hdis kk
end KINIT
def kPcK (D : va_G) (τ : Nat → ClassId) (av : List Value) (w : va_W) (sz : Nat) : Array Value → State → Prop := fun a U => kPc D τ av w sz a U ∧ va_AO RS U ∧ va_Nw (.methodLinkNest RK 18 yH_init RK) U ∧ va_Nw (.methodLinkNest RK 51 yS_init RK) U
def kMnK (l : Launch) (D : va_G) (τ : Nat → ClassId) (y : MethodName) (ws : List Cond) (rm : Room) (av : List Value) (w : va_W) (w' : (Nat → Nat) → va_W) (mc ms : Nat) : Prop :=
  ∀ sz : Nat, Met l y ws rm (kPcK D τ av w sz) (va_Qv (fun (_ : Nat → Nat) => True) (fun u t => kWd D τ (va_A w sz) (w' u) t) (va_A w sz)) mc ms (va_A w sz)
