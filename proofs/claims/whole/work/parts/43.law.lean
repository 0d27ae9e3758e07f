theorem kAd_0 (b : Bool) (ad : Nat → Nat) : kAd b ad 0 = ad 0 := by cases b <;> rfl
def kCons (q : Nat) (u : Nat → Nat) : Nat → Nat := fun i => match i with
  | 0 => q
  | n + 1 => u n
theorem k_cmp {k L : Nat} (hk : k < 1000000) (hL : L < 1000000) : (nI L - 4 < nI k) ↔ L < k + 4 := by
  rw [Int32.lt_iff_toInt_lt, show (4 : Int32) = nI 4 from rfl, pk_sub_toInt (by omega) (by omega), nI_toInt (by omega)]
  omega
theorem ka_sld {p : Program} {l : Launch} {e : Env} {R : Room} {s : State} {m : MethodId} {args : Array Value} {below : List Frame} {meth : Method} {c : Code} {H H0 : Heap} {locs : List Loc} {cells slots : Nat} {Q : State → Prop} {cc : ByteArray} {A : Nat → Prop} {pc : Nat} {ls : Array Slot} {rest : List Value} (hexec : p.tables.exec = Jvm.exec) (hb : c.code = cc) {b L : Nat} {xs : Nat → Int32} (hX : va_X b L xs s H0) (hbl : b < H0.size) (hbA : ¬ A b) (hS : va_S A H0 H locs) {k : Nat} (hk : k < L) (hL : L < 2 ^ 31) {i : Int32} (hi : i = nI k) (hdg : decode cc pc = .ok (.iaload, 1))
    (kk : W p l e R s m args below meth c H locs cells slots Q (F0 m (pc + 1) ls (.int (xs k) :: rest))) : W p l e R s m args below meth c H locs cells slots Q (F0 m pc ls (.int i :: .ref b :: rest)) := by
  subst hi
  refine va_sld hexec hb hX hbl hbA hS (vp_in_nI hk hL) hdg ?_
  rw [nI_clamp (by omega)]
  exact kk
set_option maxHeartbeats 40000000 in
set_option maxRecDepth 100000 in
theorem law_loop {p : Program} {l : Launch} {e : Env} {s : State} {m : MethodId} {below : List Frame} {meth : Method} {c : Code} {D : va_G} {τ : Nat → ClassId} {b L : Nat} {xs : Nat → Int32} (hL : L ≤ 2048) (C0 : lw_At p s m meth c b L xs) (hK : va_K D vwCl (kTys τ) s) (R : kSt → mT → Prop) (hR : kSim R) :
    ∀ (n k : Nat), L ≤ k + n → k ≤ 2052 → ∀ (ad md : Nat → Nat) (S : kSt) (T : mT), R S T → ∀ (H : Heap) (locs : List Loc), va_P D vwCl (wKP τ ad S ++ wM τ md T) H → va_D (fun q : Nat => s.heap.size ≤ q) (wKP τ ad S ++ wM τ md T) → va_S (fun q : Nat => s.heap.size ≤ q) s.heap H locs → ∀ (ls : Array Slot), lv_has ls 4 [(0, .ref b), (1, .ref (ad 0)), (2, .ref (md 0)), (3, .int (nI k))] → W p l e room_1 s m #[Value.ref b] below meth c H locs 60 9143 (lw_Z below #[Value.ref b] s) (F0 m 18 ls []) := by
  obtain ⟨hx, hb, hr, hml, hown, htl, hX, hbl, hlocks, hgv⟩ := C0
  have hts : ∀ w ∈ kTbl, w.before #[Value.ref b] s = true := fun w h => htl w (List.mem_filter.mp h).1
  have hA : ∀ q : Nat, s.heap.size ≤ q → (fun q : Nat => s.heap.size ≤ q) q := fun _ h => h
  have hbA : ¬ (fun q : Nat => s.heap.size ≤ q) b := Nat.not_le.mpr hbl
  have hend : ∀ (H : Heap) (locs : List Loc) (ls : Array Slot), va_S (fun q : Nat => s.heap.size ≤ q) s.heap H locs → W p l e room_1 s m #[Value.ref b] below meth c H locs 60 9143 (lw_Z below #[Value.ref b] s) (F0 m 546 ls []) := by
    intro H locs ls hS
    refine lv_iconst (v := 1) hx hb dW_law_546 (by decide) ?_
    refine va_forget (fun q hq => hS.2.2 q hq) ?_
    refine W.widen (k := 600000) (n := 7302250) (by decide) (by decide) ?_
    exact lw_ret hx hb hr hlocks dW_law_547
  intro n
  induction n with
  | zero =>
    intro k h1 h2 ad md S T hRST H locs hP hD hS ls hl
    refine lv_iload_n hx hb dW_law_18 rfl (lv_at hl 3 rfl) ?_
    refine lv_aload_n hx hb dW_law_19 rfl (lv_at hl 0 rfl) ?_
    refine va_slen hx hb hX hbl hbA hS dW_law_20 ?_
    refine lv_iconst (v := 4) hx hb dW_law_21 (by decide) ?_
    refine lv_isub hx hb dW_law_22 ?_
    refine lv_icmp_gt (tgt := 546) hx hb dW_law_23 (by decide) (fun c_23 => ?_) (fun c_23 => absurd ((k_cmp (by omega) (by omega)).mpr (by omega)) c_23)
    exact hend H locs ls hS
  | succ n ih =>
    intro k h1 h2 ad md S T hRST H locs hP hD hS ls hl
    refine lv_iload_n hx hb dW_law_18 rfl (lv_at hl 3 rfl) ?_
    refine lv_aload_n hx hb dW_law_19 rfl (lv_at hl 0 rfl) ?_
    refine va_slen hx hb hX hbl hbA hS dW_law_20 ?_
    refine lv_iconst (v := 4) hx hb dW_law_21 (by decide) ?_
    refine lv_isub hx hb dW_law_22 ?_
    refine lv_icmp_gt (tgt := 546) hx hb dW_law_23 (by decide) (fun c_23 => ?_) (fun c_23 => ?_)
    · exact hend H locs ls hS
    have hkL : k + 4 ≤ L := by
      have := mt (k_cmp (k := k) (L := L) (by omega) (by omega)).mpr c_23
      omega
    obtain ⟨hok, hS0, hTh, snode, ssource, sput, stake, sarc, sbegin, send, sundo, sdistance, shops, sparent, sway, saffected, stight, sring, scount⟩ := hR
    obtain ⟨oS, oT⟩ := hok S T hRST
    have hgo : ∀ (ad2 md2 : Nat → Nat) (S2 : kSt) (T2 : mT), R S2 T2 → ad2 0 = ad 0 → md2 0 = md 0 → ∀ (H : Heap) (locs : List Loc), va_P D vwCl (wKP τ ad2 S2 ++ wM τ md2 T2) H → va_D (fun q : Nat => s.heap.size ≤ q) (wKP τ ad2 S2 ++ wM τ md2 T2) → va_S (fun q : Nat => s.heap.size ≤ q) s.heap H locs → W p l e room_1 s m #[Value.ref b] below meth c H locs 60 9143 (lw_Z below #[Value.ref b] s) (F0 m 540 ls []) := by
      intro ad2 md2 S2 T2 hR2 ea em H locs hP hD hS
      refine lv_iinc (v := nI (k + 4)) (lv' := [(3, .int (nI (k + 4))), (0, .ref b), (1, .ref (ad 0)), (2, .ref (md 0))]) hx hb dW_law_540 hl (k := 3) rfl (nI_add k 4) (by decide) rfl (fun ls hl => ?_)
      refine lv_goto (tgt := 18) hx hb dW_law_543 (by decide) ?_
      exact ih (k + 4) (by omega) (by omega) ad2 md2 S2 T2 hR2 H locs hP hD hS ls (by rw [ea, em]; exact lv_sub hl [1, 2, 3, 0] rfl)
    refine lv_aload_n hx hb dW_law_26 rfl (lv_at hl 0 rfl) ?_
    refine lv_iload_n hx hb dW_law_27 rfl (lv_at hl 3 rfl) ?_
    refine ka_sld (k := k) hx hb hX hbl hbA hS (by omega) (by omega) rfl dW_law_28 ?_
    refine lv_bipush (v := 15) hx hb dW_law_29 (by decide) ?_
    refine lv_iand hx hb dW_law_31 ?_
    obtain ⟨w, hw, ew⟩ := pk_andE (xs k) (m := 15) 4 (by decide)
    rw [ew]
    rcases (show w = 0 ∨ w = 1 ∨ w = 2 ∨ w = 3 ∨ w = 4 ∨ w = 5 ∨ w = 6 ∨ w = 7 ∨ w = 8 ∨ w = 9 ∨ w = 10 ∨ w = 11 ∨ w = 12 ∨ w = 13 ∨ w = 14 ∨ w = 15 by omega) with rfl | rfl | rfl | rfl | rfl | rfl | rfl | rfl | rfl | rfl | rfl | rfl | rfl | rfl | rfl | rfl
    · refine lv_tableIn (off := 80) (tgt := 112) hx hb dW_law_32 (by decide) (by decide) rfl (by decide) ?_
      refine lv_aload_n hx hb dW_law_112 rfl (lv_at hl 1 rfl) ?_
      refine kc_L (As := []) (rest := []) ⟨hx, hb, hml, hown, hts⟩ (dk_node l D τ ad S oS) (kcwV hts qK_node w_145 rfl rfl ⟨Nat.le_of_ble_eq_true rfl, Nat.le_of_ble_eq_true rfl⟩) hK hP hD hS hA rfl (eK τ ad S) hl.1 rfl rfl (Nat.le_of_ble_eq_true rfl) ⟨Nat.le_of_ble_eq_true rfl, Nat.le_of_ble_eq_true rfl⟩ dW_law_113 (fun H locs hP hD hS => ?_)
      refine lv_aload_n hx hb dW_law_116 rfl (lv_at hl 2 rfl) ?_
      refine kc_L (As := []) (rest := [.int (fNode S).1]) ⟨hx, hb, hml, hown, hts⟩ (dm_node l D τ md T oT) (kcwV hts qM_node w_413 rfl rfl ⟨Nat.le_of_ble_eq_true rfl, Nat.le_of_ble_eq_true rfl⟩) hK hP hD hS hA rfl (eM τ md T) hl.1 rfl rfl (Nat.le_of_ble_eq_true rfl) ⟨Nat.le_of_ble_eq_true rfl, Nat.le_of_ble_eq_true rfl⟩ dW_law_117 (fun H locs hP hD hS => ?_)
      refine lv_icmp_eq (tgt := 540) hx hb dW_law_120 (by decide) (fun _ => ?_) (fun c9 => absurd (snode S T hRST).1 c9)
      exact hgo _ md _ _ (snode S T hRST).2 (kAd_0 _ ad) rfl H locs hP hD hS
    · refine lv_tableIn (off := 93) (tgt := 125) hx hb dW_law_32 (by decide) (by decide) rfl (by decide) ?_
      refine lv_aload_n hx hb dW_law_125 rfl (lv_at hl 1 rfl) ?_
      refine lv_aload_n hx hb dW_law_126 rfl (lv_at hl 0 rfl) ?_
      refine lv_iload_n hx hb dW_law_127 rfl (lv_at hl 3 rfl) ?_
      refine lv_iconst (v := 1) hx hb dW_law_128 (by decide) ?_
      refine lv_iadd hx hb dW_law_129 ?_
      refine ka_sld (k := k + 1) hx hb hX hbl hbA hS (by omega) (by omega) (nI_add k 1) dW_law_130 ?_
      refine lv_aload_n hx hb dW_law_131 rfl (lv_at hl 0 rfl) ?_
      refine lv_iload_n hx hb dW_law_132 rfl (lv_at hl 3 rfl) ?_
      refine lv_iconst (v := 2) hx hb dW_law_133 (by decide) ?_
      refine lv_iadd hx hb dW_law_134 ?_
      refine ka_sld (k := k + 2) hx hb hX hbl hbA hS (by omega) (by omega) (nI_add k 2) dW_law_135 ?_
      refine kc_L (As := [.int (xs (k + 1)), .int (xs (k + 2))]) (rest := []) ⟨hx, hb, hml, hown, hts⟩ (dk_source l D τ ad S (xs (k + 1)) (xs (k + 2)) oS) (kcwV hts qK_source w_155 rfl rfl ⟨Nat.le_of_ble_eq_true rfl, Nat.le_of_ble_eq_true rfl⟩) hK hP hD hS hA rfl (eK τ ad S) hl.1 rfl rfl (Nat.le_of_ble_eq_true rfl) ⟨Nat.le_of_ble_eq_true rfl, Nat.le_of_ble_eq_true rfl⟩ dW_law_136 (fun H locs hP hD hS => ?_)
      refine lv_aload_n hx hb dW_law_139 rfl (lv_at hl 2 rfl) ?_
      refine lv_aload_n hx hb dW_law_140 rfl (lv_at hl 0 rfl) ?_
      refine lv_iload_n hx hb dW_law_141 rfl (lv_at hl 3 rfl) ?_
      refine lv_iconst (v := 1) hx hb dW_law_142 (by decide) ?_
      refine lv_iadd hx hb dW_law_143 ?_
      refine ka_sld (k := k + 1) hx hb hX hbl hbA hS (by omega) (by omega) (nI_add k 1) dW_law_144 ?_
      refine lv_aload_n hx hb dW_law_145 rfl (lv_at hl 0 rfl) ?_
      refine lv_iload_n hx hb dW_law_146 rfl (lv_at hl 3 rfl) ?_
      refine lv_iconst (v := 2) hx hb dW_law_147 (by decide) ?_
      refine lv_iadd hx hb dW_law_148 ?_
      refine ka_sld (k := k + 2) hx hb hX hbl hbA hS (by omega) (by omega) (nI_add k 2) dW_law_149 ?_
      refine kc_L (As := [.int (xs (k + 1)), .int (xs (k + 2))]) (rest := [.int (fSource S (xs (k + 1)) (xs (k + 2))).1]) ⟨hx, hb, hml, hown, hts⟩ (dm_source l D τ md T (xs (k + 1)) (xs (k + 2)) oT) (kcwV hts qM_source w_419 rfl rfl ⟨Nat.le_of_ble_eq_true rfl, Nat.le_of_ble_eq_true rfl⟩) hK hP hD hS hA rfl (eM τ md T) hl.1 rfl rfl (Nat.le_of_ble_eq_true rfl) ⟨Nat.le_of_ble_eq_true rfl, Nat.le_of_ble_eq_true rfl⟩ dW_law_150 (fun H locs hP hD hS => ?_)
      refine lv_icmp_eq (tgt := 540) hx hb dW_law_153 (by decide) (fun _ => ?_) (fun c9 => absurd (ssource S T (xs (k + 1)) (xs (k + 2)) hRST).1 c9)
      exact hgo _ md _ _ (ssource S T (xs (k + 1)) (xs (k + 2)) hRST).2 (kAd_0 _ ad) rfl H locs hP hD hS
    · refine lv_tableIn (off := 126) (tgt := 158) hx hb dW_law_32 (by decide) (by decide) rfl (by decide) ?_
      refine lv_aload_n hx hb dW_law_158 rfl (lv_at hl 1 rfl) ?_
      refine lv_aload_n hx hb dW_law_159 rfl (lv_at hl 0 rfl) ?_
      refine lv_iload_n hx hb dW_law_160 rfl (lv_at hl 3 rfl) ?_
      refine lv_iconst (v := 1) hx hb dW_law_161 (by decide) ?_
      refine lv_iadd hx hb dW_law_162 ?_
      refine ka_sld (k := k + 1) hx hb hX hbl hbA hS (by omega) (by omega) (nI_add k 1) dW_law_163 ?_
      refine lv_aload_n hx hb dW_law_164 rfl (lv_at hl 0 rfl) ?_
      refine lv_iload_n hx hb dW_law_165 rfl (lv_at hl 3 rfl) ?_
      refine lv_iconst (v := 2) hx hb dW_law_166 (by decide) ?_
      refine lv_iadd hx hb dW_law_167 ?_
      refine ka_sld (k := k + 2) hx hb hX hbl hbA hS (by omega) (by omega) (nI_add k 2) dW_law_168 ?_
      refine lv_aload_n hx hb dW_law_169 rfl (lv_at hl 0 rfl) ?_
      refine lv_iload_n hx hb dW_law_170 rfl (lv_at hl 3 rfl) ?_
      refine lv_iconst (v := 3) hx hb dW_law_171 (by decide) ?_
      refine lv_iadd hx hb dW_law_172 ?_
      refine ka_sld (k := k + 3) hx hb hX hbl hbA hS (by omega) (by omega) (nI_add k 3) dW_law_173 ?_
      refine kc_L (As := [.int (xs (k + 1)), .int (xs (k + 2)), .int (xs (k + 3))]) (rest := []) ⟨hx, hb, hml, hown, hts⟩ (dk_put l D τ ad S (xs (k + 1)) (xs (k + 2)) (xs (k + 3)) oS) (kcwV hts qK_put w_196 rfl rfl ⟨Nat.le_of_ble_eq_true rfl, Nat.le_of_ble_eq_true rfl⟩) hK hP hD hS hA rfl (eK τ ad S) hl.1 rfl rfl (Nat.le_of_ble_eq_true rfl) ⟨Nat.le_of_ble_eq_true rfl, Nat.le_of_ble_eq_true rfl⟩ dW_law_174 (fun H locs hP hD hS => ?_)
      refine lv_aload_n hx hb dW_law_177 rfl (lv_at hl 2 rfl) ?_
      refine lv_aload_n hx hb dW_law_178 rfl (lv_at hl 0 rfl) ?_
      refine lv_iload_n hx hb dW_law_179 rfl (lv_at hl 3 rfl) ?_
      refine lv_iconst (v := 1) hx hb dW_law_180 (by decide) ?_
      refine lv_iadd hx hb dW_law_181 ?_
      refine ka_sld (k := k + 1) hx hb hX hbl hbA hS (by omega) (by omega) (nI_add k 1) dW_law_182 ?_
      refine lv_aload_n hx hb dW_law_183 rfl (lv_at hl 0 rfl) ?_
      refine lv_iload_n hx hb dW_law_184 rfl (lv_at hl 3 rfl) ?_
      refine lv_iconst (v := 2) hx hb dW_law_185 (by decide) ?_
      refine lv_iadd hx hb dW_law_186 ?_
      refine ka_sld (k := k + 2) hx hb hX hbl hbA hS (by omega) (by omega) (nI_add k 2) dW_law_187 ?_
      refine lv_aload_n hx hb dW_law_188 rfl (lv_at hl 0 rfl) ?_
      refine lv_iload_n hx hb dW_law_189 rfl (lv_at hl 3 rfl) ?_
      refine lv_iconst (v := 3) hx hb dW_law_190 (by decide) ?_
      refine lv_iadd hx hb dW_law_191 ?_
      refine ka_sld (k := k + 3) hx hb hX hbl hbA hS (by omega) (by omega) (nI_add k 3) dW_law_192 ?_
      refine kc_L (As := [.int (xs (k + 1)), .int (xs (k + 2)), .int (xs (k + 3))]) (rest := [.int (fPut S (xs (k + 1)) (xs (k + 2)) (xs (k + 3))).1]) ⟨hx, hb, hml, hown, hts⟩ (dm_put l D τ md T (xs (k + 1)) (xs (k + 2)) (xs (k + 3)) oT) (kcwV hts qM_put w_427 rfl rfl ⟨Nat.le_of_ble_eq_true rfl, Nat.le_of_ble_eq_true rfl⟩) hK hP hD hS hA rfl (eM τ md T) hl.1 rfl rfl (Nat.le_of_ble_eq_true rfl) ⟨Nat.le_of_ble_eq_true rfl, Nat.le_of_ble_eq_true rfl⟩ dW_law_193 (fun H locs hP hD hS => ?_)
      refine lv_icmp_eq (tgt := 540) hx hb dW_law_196 (by decide) (fun _ => ?_) (fun c9 => absurd (sput S T (xs (k + 1)) (xs (k + 2)) (xs (k + 3)) hRST).1 c9)
      exact hgo _ md _ _ (sput S T (xs (k + 1)) (xs (k + 2)) (xs (k + 3)) hRST).2 (kAd_0 _ ad) rfl H locs hP hD hS
    · refine lv_tableIn (off := 169) (tgt := 201) hx hb dW_law_32 (by decide) (by decide) rfl (by decide) ?_
      refine lv_aload_n hx hb dW_law_201 rfl (lv_at hl 1 rfl) ?_
      refine lv_aload_n hx hb dW_law_202 rfl (lv_at hl 0 rfl) ?_
      refine lv_iload_n hx hb dW_law_203 rfl (lv_at hl 3 rfl) ?_
      refine lv_iconst (v := 1) hx hb dW_law_204 (by decide) ?_
      refine lv_iadd hx hb dW_law_205 ?_
      refine ka_sld (k := k + 1) hx hb hX hbl hbA hS (by omega) (by omega) (nI_add k 1) dW_law_206 ?_
      refine lv_aload_n hx hb dW_law_207 rfl (lv_at hl 0 rfl) ?_
      refine lv_iload_n hx hb dW_law_208 rfl (lv_at hl 3 rfl) ?_
      refine lv_iconst (v := 2) hx hb dW_law_209 (by decide) ?_
      refine lv_iadd hx hb dW_law_210 ?_
      refine ka_sld (k := k + 2) hx hb hX hbl hbA hS (by omega) (by omega) (nI_add k 2) dW_law_211 ?_
      refine kc_L (As := [.int (xs (k + 1)), .int (xs (k + 2))]) (rest := []) ⟨hx, hb, hml, hown, hts⟩ (dk_take l D τ ad S (xs (k + 1)) (xs (k + 2)) oS) (kcwV hts qK_take w_266 rfl rfl ⟨Nat.le_of_ble_eq_true rfl, Nat.le_of_ble_eq_true rfl⟩) hK hP hD hS hA rfl (eK τ ad S) hl.1 rfl rfl (Nat.le_of_ble_eq_true rfl) ⟨Nat.le_of_ble_eq_true rfl, Nat.le_of_ble_eq_true rfl⟩ dW_law_212 (fun H locs hP hD hS => ?_)
      refine lv_aload_n hx hb dW_law_215 rfl (lv_at hl 2 rfl) ?_
      refine lv_aload_n hx hb dW_law_216 rfl (lv_at hl 0 rfl) ?_
      refine lv_iload_n hx hb dW_law_217 rfl (lv_at hl 3 rfl) ?_
      refine lv_iconst (v := 1) hx hb dW_law_218 (by decide) ?_
      refine lv_iadd hx hb dW_law_219 ?_
      refine ka_sld (k := k + 1) hx hb hX hbl hbA hS (by omega) (by omega) (nI_add k 1) dW_law_220 ?_
      refine lv_aload_n hx hb dW_law_221 rfl (lv_at hl 0 rfl) ?_
      refine lv_iload_n hx hb dW_law_222 rfl (lv_at hl 3 rfl) ?_
      refine lv_iconst (v := 2) hx hb dW_law_223 (by decide) ?_
      refine lv_iadd hx hb dW_law_224 ?_
      refine ka_sld (k := k + 2) hx hb hX hbl hbA hS (by omega) (by omega) (nI_add k 2) dW_law_225 ?_
      refine kc_L (As := [.int (xs (k + 1)), .int (xs (k + 2))]) (rest := [.int (fTake S (xs (k + 1)) (xs (k + 2))).1]) ⟨hx, hb, hml, hown, hts⟩ (dm_take l D τ md T (xs (k + 1)) (xs (k + 2)) oT) (kcwV hts qM_take w_452 rfl rfl ⟨Nat.le_of_ble_eq_true rfl, Nat.le_of_ble_eq_true rfl⟩) hK hP hD hS hA rfl (eM τ md T) hl.1 rfl rfl (Nat.le_of_ble_eq_true rfl) ⟨Nat.le_of_ble_eq_true rfl, Nat.le_of_ble_eq_true rfl⟩ dW_law_226 (fun H locs hP hD hS => ?_)
      refine lv_icmp_eq (tgt := 540) hx hb dW_law_229 (by decide) (fun _ => ?_) (fun c9 => absurd (stake S T (xs (k + 1)) (xs (k + 2)) hRST).1 c9)
      exact hgo _ md _ _ (stake S T (xs (k + 1)) (xs (k + 2)) hRST).2 (kAd_0 _ ad) rfl H locs hP hD hS
    · refine lv_tableIn (off := 202) (tgt := 234) hx hb dW_law_32 (by decide) (by decide) rfl (by decide) ?_
      refine lv_aload_n hx hb dW_law_234 rfl (lv_at hl 1 rfl) ?_
      refine lv_aload_n hx hb dW_law_235 rfl (lv_at hl 0 rfl) ?_
      refine lv_iload_n hx hb dW_law_236 rfl (lv_at hl 3 rfl) ?_
      refine lv_iconst (v := 1) hx hb dW_law_237 (by decide) ?_
      refine lv_iadd hx hb dW_law_238 ?_
      refine ka_sld (k := k + 1) hx hb hX hbl hbA hS (by omega) (by omega) (nI_add k 1) dW_law_239 ?_
      refine lv_aload_n hx hb dW_law_240 rfl (lv_at hl 0 rfl) ?_
      refine lv_iload_n hx hb dW_law_241 rfl (lv_at hl 3 rfl) ?_
      refine lv_iconst (v := 2) hx hb dW_law_242 (by decide) ?_
      refine lv_iadd hx hb dW_law_243 ?_
      refine ka_sld (k := k + 2) hx hb hX hbl hbA hS (by omega) (by omega) (nI_add k 2) dW_law_244 ?_
      refine kc_L (As := [.int (xs (k + 1)), .int (xs (k + 2))]) (rest := []) ⟨hx, hb, hml, hown, hts⟩ (dk_arc l D τ ad S (xs (k + 1)) (xs (k + 2)) oS) (kcwV hts qK_arc w_271 rfl rfl ⟨Nat.le_of_ble_eq_true rfl, Nat.le_of_ble_eq_true rfl⟩) hK hP hD hS hA rfl (eK τ ad S) hl.1 rfl rfl (Nat.le_of_ble_eq_true rfl) ⟨Nat.le_of_ble_eq_true rfl, Nat.le_of_ble_eq_true rfl⟩ dW_law_245 (fun H locs hP hD hS => ?_)
      refine lv_aload_n hx hb dW_law_248 rfl (lv_at hl 2 rfl) ?_
      refine lv_aload_n hx hb dW_law_249 rfl (lv_at hl 0 rfl) ?_
      refine lv_iload_n hx hb dW_law_250 rfl (lv_at hl 3 rfl) ?_
      refine lv_iconst (v := 1) hx hb dW_law_251 (by decide) ?_
      refine lv_iadd hx hb dW_law_252 ?_
      refine ka_sld (k := k + 1) hx hb hX hbl hbA hS (by omega) (by omega) (nI_add k 1) dW_law_253 ?_
      refine lv_aload_n hx hb dW_law_254 rfl (lv_at hl 0 rfl) ?_
      refine lv_iload_n hx hb dW_law_255 rfl (lv_at hl 3 rfl) ?_
      refine lv_iconst (v := 2) hx hb dW_law_256 (by decide) ?_
      refine lv_iadd hx hb dW_law_257 ?_
      refine ka_sld (k := k + 2) hx hb hX hbl hbA hS (by omega) (by omega) (nI_add k 2) dW_law_258 ?_
      refine kc_L (As := [.int (xs (k + 1)), .int (xs (k + 2))]) (rest := [.int (fArc S (xs (k + 1)) (xs (k + 2)))]) ⟨hx, hb, hml, hown, hts⟩ (dm_arc l D τ md T (xs (k + 1)) (xs (k + 2)) oT) (kcwV hts qM_arc w_456 rfl rfl ⟨Nat.le_of_ble_eq_true rfl, Nat.le_of_ble_eq_true rfl⟩) hK hP hD hS hA rfl (eM τ md T) hl.1 rfl rfl (Nat.le_of_ble_eq_true rfl) ⟨Nat.le_of_ble_eq_true rfl, Nat.le_of_ble_eq_true rfl⟩ dW_law_259 (fun H locs hP hD hS => ?_)
      refine lv_icmp_eq (tgt := 540) hx hb dW_law_262 (by decide) (fun _ => ?_) (fun c9 => absurd (sarc S T (xs (k + 1)) (xs (k + 2)) hRST) c9)
      exact hgo ad md S _ (hTh S T hRST) rfl rfl H locs hP hD hS
    · refine lv_tableIn (off := 235) (tgt := 267) hx hb dW_law_32 (by decide) (by decide) rfl (by decide) ?_
      refine lv_aload_n hx hb dW_law_267 rfl (lv_at hl 1 rfl) ?_
      refine kc_L (As := []) (rest := []) ⟨hx, hb, hml, hown, hts⟩ (dk_begin l D τ ad S oS) (kcwV hts qK_begin w_275 rfl rfl ⟨Nat.le_of_ble_eq_true rfl, Nat.le_of_ble_eq_true rfl⟩) hK hP hD hS hA rfl (eK τ ad S) hl.1 rfl rfl (Nat.le_of_ble_eq_true rfl) ⟨Nat.le_of_ble_eq_true rfl, Nat.le_of_ble_eq_true rfl⟩ dW_law_268 (fun H locs hP hD hS => ?_)
      refine lv_aload_n hx hb dW_law_271 rfl (lv_at hl 2 rfl) ?_
      refine kc_L (As := []) (rest := [.int (fBegin S).1]) ⟨hx, hb, hml, hown, hts⟩ (dm_begin l D τ md T oT) (kcwV hts qM_begin w_460 rfl rfl ⟨Nat.le_of_ble_eq_true rfl, Nat.le_of_ble_eq_true rfl⟩) hK hP hD hS hA rfl (eM τ md T) hl.1 rfl rfl (Nat.le_of_ble_eq_true rfl) ⟨Nat.le_of_ble_eq_true rfl, Nat.le_of_ble_eq_true rfl⟩ dW_law_272 (fun H locs hP hD hS => ?_)
      refine lv_icmp_eq (tgt := 540) hx hb dW_law_275 (by decide) (fun _ => ?_) (fun c9 => absurd (sbegin S T hRST).1 c9)
      exact hgo _ md _ _ (sbegin S T hRST).2 (kAd_0 _ ad) rfl H locs hP hD hS
    · refine lv_tableIn (off := 248) (tgt := 280) hx hb dW_law_32 (by decide) (by decide) rfl (by decide) ?_
      refine lv_aload_n hx hb dW_law_280 rfl (lv_at hl 1 rfl) ?_
      refine kc_L (As := []) (rest := []) ⟨hx, hb, hml, hown, hts⟩ (dk_end l D τ ad S oS) (kcwV hts qK_end w_279 rfl rfl ⟨Nat.le_of_ble_eq_true rfl, Nat.le_of_ble_eq_true rfl⟩) hK hP hD hS hA rfl (eK τ ad S) hl.1 rfl rfl (Nat.le_of_ble_eq_true rfl) ⟨Nat.le_of_ble_eq_true rfl, Nat.le_of_ble_eq_true rfl⟩ dW_law_281 (fun H locs hP hD hS => ?_)
      refine lv_aload_n hx hb dW_law_284 rfl (lv_at hl 2 rfl) ?_
      refine kc_L (As := []) (rest := [.int (fEnd S).1]) ⟨hx, hb, hml, hown, hts⟩ (dm_end l D τ md T oT) (kcwV hts qM_end w_464 rfl rfl ⟨Nat.le_of_ble_eq_true rfl, Nat.le_of_ble_eq_true rfl⟩) hK hP hD hS hA rfl (eM τ md T) hl.1 rfl rfl (Nat.le_of_ble_eq_true rfl) ⟨Nat.le_of_ble_eq_true rfl, Nat.le_of_ble_eq_true rfl⟩ dW_law_285 (fun H locs hP hD hS => ?_)
      refine lv_icmp_eq (tgt := 540) hx hb dW_law_288 (by decide) (fun _ => ?_) (fun c9 => absurd (send S T hRST).1 c9)
      exact hgo _ md _ _ (send S T hRST).2 (kAd_0 _ ad) rfl H locs hP hD hS
    · refine lv_tableIn (off := 261) (tgt := 293) hx hb dW_law_32 (by decide) (by decide) rfl (by decide) ?_
      refine lv_aload_n hx hb dW_law_293 rfl (lv_at hl 1 rfl) ?_
      refine kc_L (As := []) (rest := []) ⟨hx, hb, hml, hown, hts⟩ (dk_undo l D τ ad S oS) (kcwV hts qK_undo w_283 rfl rfl ⟨Nat.le_of_ble_eq_true rfl, Nat.le_of_ble_eq_true rfl⟩) hK hP hD hS hA rfl (eK τ ad S) hl.1 rfl rfl (Nat.le_of_ble_eq_true rfl) ⟨Nat.le_of_ble_eq_true rfl, Nat.le_of_ble_eq_true rfl⟩ dW_law_294 (fun H locs hP hD hS => ?_)
      refine lv_aload_n hx hb dW_law_297 rfl (lv_at hl 2 rfl) ?_
      refine kc_L (As := []) (rest := [.int (fUndo S).1]) ⟨hx, hb, hml, hown, hts⟩ (dm_undo l D τ md T oT) (kcwV hts qM_undo w_468 rfl rfl ⟨Nat.le_of_ble_eq_true rfl, Nat.le_of_ble_eq_true rfl⟩) hK hP hD hS hA rfl (eM τ md T) hl.1 rfl rfl (Nat.le_of_ble_eq_true rfl) ⟨Nat.le_of_ble_eq_true rfl, Nat.le_of_ble_eq_true rfl⟩ dW_law_298 (fun H locs hP hD hS => ?_)
      refine lv_icmp_eq (tgt := 540) hx hb dW_law_301 (by decide) (fun _ => ?_) (fun c9 => absurd (sundo S T hRST).1 c9)
      exact hgo _ md _ _ (sundo S T hRST).2 (kAd_0 _ ad) rfl H locs hP hD hS
    · refine lv_tableIn (off := 274) (tgt := 306) hx hb dW_law_32 (by decide) (by decide) rfl (by decide) ?_
      refine lv_aload_n hx hb dW_law_306 rfl (lv_at hl 1 rfl) ?_
      refine lv_aload_n hx hb dW_law_307 rfl (lv_at hl 0 rfl) ?_
      refine lv_iload_n hx hb dW_law_308 rfl (lv_at hl 3 rfl) ?_
      refine lv_iconst (v := 1) hx hb dW_law_309 (by decide) ?_
      refine lv_iadd hx hb dW_law_310 ?_
      refine ka_sld (k := k + 1) hx hb hX hbl hbA hS (by omega) (by omega) (nI_add k 1) dW_law_311 ?_
      refine lv_aload_n hx hb dW_law_312 rfl (lv_at hl 0 rfl) ?_
      refine lv_iload_n hx hb dW_law_313 rfl (lv_at hl 3 rfl) ?_
      refine lv_iconst (v := 2) hx hb dW_law_314 (by decide) ?_
      refine lv_iadd hx hb dW_law_315 ?_
      refine ka_sld (k := k + 2) hx hb hX hbl hbA hS (by omega) (by omega) (nI_add k 2) dW_law_316 ?_
      refine kc_L (As := [.int (xs (k + 1)), .int (xs (k + 2))]) (rest := []) ⟨hx, hb, hml, hown, hts⟩ (dk_distance l D τ ad S (xs (k + 1)) (xs (k + 2)) oS) (kcwV hts qK_distance w_292 rfl rfl ⟨Nat.le_of_ble_eq_true rfl, Nat.le_of_ble_eq_true rfl⟩) hK hP hD hS hA rfl (eK τ ad S) hl.1 rfl rfl (Nat.le_of_ble_eq_true rfl) ⟨Nat.le_of_ble_eq_true rfl, Nat.le_of_ble_eq_true rfl⟩ dW_law_317 (fun H locs hP hD hS => ?_)
      refine lv_aload_n hx hb dW_law_320 rfl (lv_at hl 2 rfl) ?_
      refine lv_aload_n hx hb dW_law_321 rfl (lv_at hl 0 rfl) ?_
      refine lv_iload_n hx hb dW_law_322 rfl (lv_at hl 3 rfl) ?_
      refine lv_iconst (v := 1) hx hb dW_law_323 (by decide) ?_
      refine lv_iadd hx hb dW_law_324 ?_
      refine ka_sld (k := k + 1) hx hb hX hbl hbA hS (by omega) (by omega) (nI_add k 1) dW_law_325 ?_
      refine lv_aload_n hx hb dW_law_326 rfl (lv_at hl 0 rfl) ?_
      refine lv_iload_n hx hb dW_law_327 rfl (lv_at hl 3 rfl) ?_
      refine lv_iconst (v := 2) hx hb dW_law_328 (by decide) ?_
      refine lv_iadd hx hb dW_law_329 ?_
      refine ka_sld (k := k + 2) hx hb hX hbl hbA hS (by omega) (by omega) (nI_add k 2) dW_law_330 ?_
      refine kc_L (As := [.int (xs (k + 1)), .int (xs (k + 2))]) (rest := [.int (fDist S (xs (k + 1)) (xs (k + 2)))]) ⟨hx, hb, hml, hown, hts⟩ (dm_distance l D τ md T (xs (k + 1)) (xs (k + 2)) oT) (kcwV hts qM_distance w_472 rfl rfl ⟨Nat.le_of_ble_eq_true rfl, Nat.le_of_ble_eq_true rfl⟩) hK hP hD hS hA rfl (eM τ md T) hl.1 rfl rfl (Nat.le_of_ble_eq_true rfl) ⟨Nat.le_of_ble_eq_true rfl, Nat.le_of_ble_eq_true rfl⟩ dW_law_331 (fun H locs hP hD hS => ?_)
      refine lv_icmp_eq (tgt := 540) hx hb dW_law_334 (by decide) (fun _ => ?_) (fun c9 => absurd (sdistance S T (xs (k + 1)) (xs (k + 2)) hRST) c9)
      exact hgo ad md S _ (hTh S T hRST) rfl rfl H locs hP hD hS
    · refine lv_tableIn (off := 307) (tgt := 339) hx hb dW_law_32 (by decide) (by decide) rfl (by decide) ?_
      refine lv_aload_n hx hb dW_law_339 rfl (lv_at hl 1 rfl) ?_
      refine lv_aload_n hx hb dW_law_340 rfl (lv_at hl 0 rfl) ?_
      refine lv_iload_n hx hb dW_law_341 rfl (lv_at hl 3 rfl) ?_
      refine lv_iconst (v := 1) hx hb dW_law_342 (by decide) ?_
      refine lv_iadd hx hb dW_law_343 ?_
      refine ka_sld (k := k + 1) hx hb hX hbl hbA hS (by omega) (by omega) (nI_add k 1) dW_law_344 ?_
      refine lv_aload_n hx hb dW_law_345 rfl (lv_at hl 0 rfl) ?_
      refine lv_iload_n hx hb dW_law_346 rfl (lv_at hl 3 rfl) ?_
      refine lv_iconst (v := 2) hx hb dW_law_347 (by decide) ?_
      refine lv_iadd hx hb dW_law_348 ?_
      refine ka_sld (k := k + 2) hx hb hX hbl hbA hS (by omega) (by omega) (nI_add k 2) dW_law_349 ?_
      refine kc_L (As := [.int (xs (k + 1)), .int (xs (k + 2))]) (rest := []) ⟨hx, hb, hml, hown, hts⟩ (dk_hops l D τ ad S (xs (k + 1)) (xs (k + 2)) oS) (kcwV hts qK_hops w_296 rfl rfl ⟨Nat.le_of_ble_eq_true rfl, Nat.le_of_ble_eq_true rfl⟩) hK hP hD hS hA rfl (eK τ ad S) hl.1 rfl rfl (Nat.le_of_ble_eq_true rfl) ⟨Nat.le_of_ble_eq_true rfl, Nat.le_of_ble_eq_true rfl⟩ dW_law_350 (fun H locs hP hD hS => ?_)
      refine lv_aload_n hx hb dW_law_353 rfl (lv_at hl 2 rfl) ?_
      refine lv_aload_n hx hb dW_law_354 rfl (lv_at hl 0 rfl) ?_
      refine lv_iload_n hx hb dW_law_355 rfl (lv_at hl 3 rfl) ?_
      refine lv_iconst (v := 1) hx hb dW_law_356 (by decide) ?_
      refine lv_iadd hx hb dW_law_357 ?_
      refine ka_sld (k := k + 1) hx hb hX hbl hbA hS (by omega) (by omega) (nI_add k 1) dW_law_358 ?_
      refine lv_aload_n hx hb dW_law_359 rfl (lv_at hl 0 rfl) ?_
      refine lv_iload_n hx hb dW_law_360 rfl (lv_at hl 3 rfl) ?_
      refine lv_iconst (v := 2) hx hb dW_law_361 (by decide) ?_
      refine lv_iadd hx hb dW_law_362 ?_
      refine ka_sld (k := k + 2) hx hb hX hbl hbA hS (by omega) (by omega) (nI_add k 2) dW_law_363 ?_
      refine kc_L (As := [.int (xs (k + 1)), .int (xs (k + 2))]) (rest := [.int (fHops S (xs (k + 1)) (xs (k + 2)))]) ⟨hx, hb, hml, hown, hts⟩ (dm_hops l D τ md T (xs (k + 1)) (xs (k + 2)) oT) (kcwV hts qM_hops w_480 rfl rfl ⟨Nat.le_of_ble_eq_true rfl, Nat.le_of_ble_eq_true rfl⟩) hK hP hD hS hA rfl (eM τ md T) hl.1 rfl rfl (Nat.le_of_ble_eq_true rfl) ⟨Nat.le_of_ble_eq_true rfl, Nat.le_of_ble_eq_true rfl⟩ dW_law_364 (fun H locs hP hD hS => ?_)
      refine lv_icmp_eq (tgt := 540) hx hb dW_law_367 (by decide) (fun _ => ?_) (fun c9 => absurd (shops S T (xs (k + 1)) (xs (k + 2)) hRST) c9)
      exact hgo ad md S _ (hTh S T hRST) rfl rfl H locs hP hD hS
    · refine lv_tableIn (off := 340) (tgt := 372) hx hb dW_law_32 (by decide) (by decide) rfl (by decide) ?_
      refine lv_aload_n hx hb dW_law_372 rfl (lv_at hl 1 rfl) ?_
      refine lv_aload_n hx hb dW_law_373 rfl (lv_at hl 0 rfl) ?_
      refine lv_iload_n hx hb dW_law_374 rfl (lv_at hl 3 rfl) ?_
      refine lv_iconst (v := 1) hx hb dW_law_375 (by decide) ?_
      refine lv_iadd hx hb dW_law_376 ?_
      refine ka_sld (k := k + 1) hx hb hX hbl hbA hS (by omega) (by omega) (nI_add k 1) dW_law_377 ?_
      refine lv_aload_n hx hb dW_law_378 rfl (lv_at hl 0 rfl) ?_
      refine lv_iload_n hx hb dW_law_379 rfl (lv_at hl 3 rfl) ?_
      refine lv_iconst (v := 2) hx hb dW_law_380 (by decide) ?_
      refine lv_iadd hx hb dW_law_381 ?_
      refine ka_sld (k := k + 2) hx hb hX hbl hbA hS (by omega) (by omega) (nI_add k 2) dW_law_382 ?_
      refine kc_L (As := [.int (xs (k + 1)), .int (xs (k + 2))]) (rest := []) ⟨hx, hb, hml, hown, hts⟩ (dk_parent l D τ ad S (xs (k + 1)) (xs (k + 2)) oS) (kcwV hts qK_parent w_300 rfl rfl ⟨Nat.le_of_ble_eq_true rfl, Nat.le_of_ble_eq_true rfl⟩) hK hP hD hS hA rfl (eK τ ad S) hl.1 rfl rfl (Nat.le_of_ble_eq_true rfl) ⟨Nat.le_of_ble_eq_true rfl, Nat.le_of_ble_eq_true rfl⟩ dW_law_383 (fun H locs hP hD hS => ?_)
      refine lv_aload_n hx hb dW_law_386 rfl (lv_at hl 2 rfl) ?_
      refine lv_aload_n hx hb dW_law_387 rfl (lv_at hl 0 rfl) ?_
      refine lv_iload_n hx hb dW_law_388 rfl (lv_at hl 3 rfl) ?_
      refine lv_iconst (v := 1) hx hb dW_law_389 (by decide) ?_
      refine lv_iadd hx hb dW_law_390 ?_
      refine ka_sld (k := k + 1) hx hb hX hbl hbA hS (by omega) (by omega) (nI_add k 1) dW_law_391 ?_
      refine lv_aload_n hx hb dW_law_392 rfl (lv_at hl 0 rfl) ?_
      refine lv_iload_n hx hb dW_law_393 rfl (lv_at hl 3 rfl) ?_
      refine lv_iconst (v := 2) hx hb dW_law_394 (by decide) ?_
      refine lv_iadd hx hb dW_law_395 ?_
      refine ka_sld (k := k + 2) hx hb hX hbl hbA hS (by omega) (by omega) (nI_add k 2) dW_law_396 ?_
      refine kc_L (As := [.int (xs (k + 1)), .int (xs (k + 2))]) (rest := [.int (fPar S (xs (k + 1)) (xs (k + 2)))]) ⟨hx, hb, hml, hown, hts⟩ (dm_parent l D τ md T (xs (k + 1)) (xs (k + 2)) oT) (kcwV hts qM_parent w_484 rfl rfl ⟨Nat.le_of_ble_eq_true rfl, Nat.le_of_ble_eq_true rfl⟩) hK hP hD hS hA rfl (eM τ md T) hl.1 rfl rfl (Nat.le_of_ble_eq_true rfl) ⟨Nat.le_of_ble_eq_true rfl, Nat.le_of_ble_eq_true rfl⟩ dW_law_397 (fun H locs hP hD hS => ?_)
      refine lv_icmp_eq (tgt := 540) hx hb dW_law_400 (by decide) (fun _ => ?_) (fun c9 => absurd (sparent S T (xs (k + 1)) (xs (k + 2)) hRST) c9)
      exact hgo ad md S _ (hTh S T hRST) rfl rfl H locs hP hD hS
    · refine lv_tableIn (off := 373) (tgt := 405) hx hb dW_law_32 (by decide) (by decide) rfl (by decide) ?_
      refine lv_aload_n hx hb dW_law_405 rfl (lv_at hl 1 rfl) ?_
      refine lv_aload_n hx hb dW_law_406 rfl (lv_at hl 0 rfl) ?_
      refine lv_iload_n hx hb dW_law_407 rfl (lv_at hl 3 rfl) ?_
      refine lv_iconst (v := 1) hx hb dW_law_408 (by decide) ?_
      refine lv_iadd hx hb dW_law_409 ?_
      refine ka_sld (k := k + 1) hx hb hX hbl hbA hS (by omega) (by omega) (nI_add k 1) dW_law_410 ?_
      refine lv_aload_n hx hb dW_law_411 rfl (lv_at hl 0 rfl) ?_
      refine lv_iload_n hx hb dW_law_412 rfl (lv_at hl 3 rfl) ?_
      refine lv_iconst (v := 2) hx hb dW_law_413 (by decide) ?_
      refine lv_iadd hx hb dW_law_414 ?_
      refine ka_sld (k := k + 2) hx hb hX hbl hbA hS (by omega) (by omega) (nI_add k 2) dW_law_415 ?_
      refine lv_aload_n hx hb dW_law_416 rfl (lv_at hl 0 rfl) ?_
      refine lv_iload_n hx hb dW_law_417 rfl (lv_at hl 3 rfl) ?_
      refine lv_iconst (v := 3) hx hb dW_law_418 (by decide) ?_
      refine lv_iadd hx hb dW_law_419 ?_
      refine ka_sld (k := k + 3) hx hb hX hbl hbA hS (by omega) (by omega) (nI_add k 3) dW_law_420 ?_
      refine kc_L (As := [.int (xs (k + 1)), .int (xs (k + 2)), .int (xs (k + 3))]) (rest := []) ⟨hx, hb, hml, hown, hts⟩ (dk_way l D τ ad S (xs (k + 1)) (xs (k + 2)) (xs (k + 3)) oS) (kcwV hts qK_way w_304 rfl rfl ⟨Nat.le_of_ble_eq_true rfl, Nat.le_of_ble_eq_true rfl⟩) hK hP hD hS hA rfl (eK τ ad S) hl.1 rfl rfl (Nat.le_of_ble_eq_true rfl) ⟨Nat.le_of_ble_eq_true rfl, Nat.le_of_ble_eq_true rfl⟩ dW_law_421 (fun H locs hP hD hS => ?_)
      refine lv_aload_n hx hb dW_law_424 rfl (lv_at hl 2 rfl) ?_
      refine lv_aload_n hx hb dW_law_425 rfl (lv_at hl 0 rfl) ?_
      refine lv_iload_n hx hb dW_law_426 rfl (lv_at hl 3 rfl) ?_
      refine lv_iconst (v := 1) hx hb dW_law_427 (by decide) ?_
      refine lv_iadd hx hb dW_law_428 ?_
      refine ka_sld (k := k + 1) hx hb hX hbl hbA hS (by omega) (by omega) (nI_add k 1) dW_law_429 ?_
      refine lv_aload_n hx hb dW_law_430 rfl (lv_at hl 0 rfl) ?_
      refine lv_iload_n hx hb dW_law_431 rfl (lv_at hl 3 rfl) ?_
      refine lv_iconst (v := 2) hx hb dW_law_432 (by decide) ?_
      refine lv_iadd hx hb dW_law_433 ?_
      refine ka_sld (k := k + 2) hx hb hX hbl hbA hS (by omega) (by omega) (nI_add k 2) dW_law_434 ?_
      refine lv_aload_n hx hb dW_law_435 rfl (lv_at hl 0 rfl) ?_
      refine lv_iload_n hx hb dW_law_436 rfl (lv_at hl 3 rfl) ?_
      refine lv_iconst (v := 3) hx hb dW_law_437 (by decide) ?_
      refine lv_iadd hx hb dW_law_438 ?_
      refine ka_sld (k := k + 3) hx hb hX hbl hbA hS (by omega) (by omega) (nI_add k 3) dW_law_439 ?_
      refine kc_L (As := [.int (xs (k + 1)), .int (xs (k + 2)), .int (xs (k + 3))]) (rest := [.int (fWay S (xs (k + 1)) (xs (k + 2)) (xs (k + 3)))]) ⟨hx, hb, hml, hown, hts⟩ (dm_way l D τ md T (xs (k + 1)) (xs (k + 2)) (xs (k + 3)) oT) (kcwV hts qM_way w_488 rfl rfl ⟨Nat.le_of_ble_eq_true rfl, Nat.le_of_ble_eq_true rfl⟩) hK hP hD hS hA rfl (eM τ md T) hl.1 rfl rfl (Nat.le_of_ble_eq_true rfl) ⟨Nat.le_of_ble_eq_true rfl, Nat.le_of_ble_eq_true rfl⟩ dW_law_440 (fun H locs hP hD hS => ?_)
      refine lv_icmp_eq (tgt := 540) hx hb dW_law_443 (by decide) (fun _ => ?_) (fun c9 => absurd (sway S T (xs (k + 1)) (xs (k + 2)) (xs (k + 3)) hRST) c9)
      exact hgo ad md S _ (hTh S T hRST) rfl rfl H locs hP hD hS
    · refine lv_tableIn (off := 416) (tgt := 448) hx hb dW_law_32 (by decide) (by decide) rfl (by decide) ?_
      refine lv_aload_n hx hb dW_law_448 rfl (lv_at hl 1 rfl) ?_
      refine lv_aload_n hx hb dW_law_449 rfl (lv_at hl 0 rfl) ?_
      refine lv_iload_n hx hb dW_law_450 rfl (lv_at hl 3 rfl) ?_
      refine lv_iconst (v := 1) hx hb dW_law_451 (by decide) ?_
      refine lv_iadd hx hb dW_law_452 ?_
      refine ka_sld (k := k + 1) hx hb hX hbl hbA hS (by omega) (by omega) (nI_add k 1) dW_law_453 ?_
      refine kc_L (As := [.int (xs (k + 1))]) (rest := []) ⟨hx, hb, hml, hown, hts⟩ (dk_affected l D τ ad S (xs (k + 1)) oS) (kcwV hts qK_affected w_308 rfl rfl ⟨Nat.le_of_ble_eq_true rfl, Nat.le_of_ble_eq_true rfl⟩) hK hP hD hS hA rfl (eK τ ad S) hl.1 rfl rfl (Nat.le_of_ble_eq_true rfl) ⟨Nat.le_of_ble_eq_true rfl, Nat.le_of_ble_eq_true rfl⟩ dW_law_454 (fun H locs hP hD hS => ?_)
      refine lv_aload_n hx hb dW_law_457 rfl (lv_at hl 2 rfl) ?_
      refine lv_aload_n hx hb dW_law_458 rfl (lv_at hl 0 rfl) ?_
      refine lv_iload_n hx hb dW_law_459 rfl (lv_at hl 3 rfl) ?_
      refine lv_iconst (v := 1) hx hb dW_law_460 (by decide) ?_
      refine lv_iadd hx hb dW_law_461 ?_
      refine ka_sld (k := k + 1) hx hb hX hbl hbA hS (by omega) (by omega) (nI_add k 1) dW_law_462 ?_
      refine kc_L (As := [.int (xs (k + 1))]) (rest := [.int (fAff S (xs (k + 1)))]) ⟨hx, hb, hml, hown, hts⟩ (dm_affected l D τ md T (xs (k + 1)) oT) (kcwV hts qM_affected w_492 rfl rfl ⟨Nat.le_of_ble_eq_true rfl, Nat.le_of_ble_eq_true rfl⟩) hK hP hD hS hA rfl (eM τ md T) hl.1 rfl rfl (Nat.le_of_ble_eq_true rfl) ⟨Nat.le_of_ble_eq_true rfl, Nat.le_of_ble_eq_true rfl⟩ dW_law_463 (fun H locs hP hD hS => ?_)
      refine lv_icmp_eq (tgt := 540) hx hb dW_law_466 (by decide) (fun _ => ?_) (fun c9 => absurd (saffected S T (xs (k + 1)) hRST) c9)
      exact hgo ad md S _ (hTh S T hRST) rfl rfl H locs hP hD hS
    · refine lv_tableIn (off := 439) (tgt := 471) hx hb dW_law_32 (by decide) (by decide) rfl (by decide) ?_
      refine lv_aload_n hx hb dW_law_471 rfl (lv_at hl 1 rfl) ?_
      refine lv_aload_n hx hb dW_law_472 rfl (lv_at hl 0 rfl) ?_
      refine lv_iload_n hx hb dW_law_473 rfl (lv_at hl 3 rfl) ?_
      refine lv_iconst (v := 1) hx hb dW_law_474 (by decide) ?_
      refine lv_iadd hx hb dW_law_475 ?_
      refine ka_sld (k := k + 1) hx hb hX hbl hbA hS (by omega) (by omega) (nI_add k 1) dW_law_476 ?_
      refine kc_L (As := [.int (xs (k + 1))]) (rest := []) ⟨hx, hb, hml, hown, hts⟩ (dk_tight l D τ ad S (xs (k + 1)) oS) (kcwV hts qK_tight w_312 rfl rfl ⟨Nat.le_of_ble_eq_true rfl, Nat.le_of_ble_eq_true rfl⟩) hK hP hD hS hA rfl (eK τ ad S) hl.1 rfl rfl (Nat.le_of_ble_eq_true rfl) ⟨Nat.le_of_ble_eq_true rfl, Nat.le_of_ble_eq_true rfl⟩ dW_law_477 (fun H locs hP hD hS => ?_)
      refine lv_aload_n hx hb dW_law_480 rfl (lv_at hl 2 rfl) ?_
      refine lv_aload_n hx hb dW_law_481 rfl (lv_at hl 0 rfl) ?_
      refine lv_iload_n hx hb dW_law_482 rfl (lv_at hl 3 rfl) ?_
      refine lv_iconst (v := 1) hx hb dW_law_483 (by decide) ?_
      refine lv_iadd hx hb dW_law_484 ?_
      refine ka_sld (k := k + 1) hx hb hX hbl hbA hS (by omega) (by omega) (nI_add k 1) dW_law_485 ?_
      refine kc_L (As := [.int (xs (k + 1))]) (rest := [.int (fTight S (xs (k + 1)))]) ⟨hx, hb, hml, hown, hts⟩ (dm_tight l D τ md T (xs (k + 1)) oT) (kcwV hts qM_tight w_496 rfl rfl ⟨Nat.le_of_ble_eq_true rfl, Nat.le_of_ble_eq_true rfl⟩) hK hP hD hS hA rfl (eM τ md T) hl.1 rfl rfl (Nat.le_of_ble_eq_true rfl) ⟨Nat.le_of_ble_eq_true rfl, Nat.le_of_ble_eq_true rfl⟩ dW_law_486 (fun H locs hP hD hS => ?_)
      refine lv_icmp_eq (tgt := 540) hx hb dW_law_489 (by decide) (fun _ => ?_) (fun c9 => absurd (stight S T (xs (k + 1)) hRST) c9)
      exact hgo ad md S _ (hTh S T hRST) rfl rfl H locs hP hD hS
    · refine lv_tableIn (off := 462) (tgt := 494) hx hb dW_law_32 (by decide) (by decide) rfl (by decide) ?_
      refine lv_aload_n hx hb dW_law_494 rfl (lv_at hl 1 rfl) ?_
      refine lv_aload_n hx hb dW_law_495 rfl (lv_at hl 0 rfl) ?_
      refine lv_iload_n hx hb dW_law_496 rfl (lv_at hl 3 rfl) ?_
      refine lv_iconst (v := 1) hx hb dW_law_497 (by decide) ?_
      refine lv_iadd hx hb dW_law_498 ?_
      refine ka_sld (k := k + 1) hx hb hX hbl hbA hS (by omega) (by omega) (nI_add k 1) dW_law_499 ?_
      refine kc_L (As := [.int (xs (k + 1))]) (rest := []) ⟨hx, hb, hml, hown, hts⟩ (dk_ring l D τ ad S (xs (k + 1)) oS) (kcwV hts qK_ring w_316 rfl rfl ⟨Nat.le_of_ble_eq_true rfl, Nat.le_of_ble_eq_true rfl⟩) hK hP hD hS hA rfl (eK τ ad S) hl.1 rfl rfl (Nat.le_of_ble_eq_true rfl) ⟨Nat.le_of_ble_eq_true rfl, Nat.le_of_ble_eq_true rfl⟩ dW_law_500 (fun H locs hP hD hS => ?_)
      refine lv_aload_n hx hb dW_law_503 rfl (lv_at hl 2 rfl) ?_
      refine lv_aload_n hx hb dW_law_504 rfl (lv_at hl 0 rfl) ?_
      refine lv_iload_n hx hb dW_law_505 rfl (lv_at hl 3 rfl) ?_
      refine lv_iconst (v := 1) hx hb dW_law_506 (by decide) ?_
      refine lv_iadd hx hb dW_law_507 ?_
      refine ka_sld (k := k + 1) hx hb hX hbl hbA hS (by omega) (by omega) (nI_add k 1) dW_law_508 ?_
      refine kc_L (As := [.int (xs (k + 1))]) (rest := [.int (fRing S (xs (k + 1)))]) ⟨hx, hb, hml, hown, hts⟩ (dm_ring l D τ md T (xs (k + 1)) oT) (kcwV hts qM_ring w_500 rfl rfl ⟨Nat.le_of_ble_eq_true rfl, Nat.le_of_ble_eq_true rfl⟩) hK hP hD hS hA rfl (eM τ md T) hl.1 rfl rfl (Nat.le_of_ble_eq_true rfl) ⟨Nat.le_of_ble_eq_true rfl, Nat.le_of_ble_eq_true rfl⟩ dW_law_509 (fun H locs hP hD hS => ?_)
      refine lv_icmp_eq (tgt := 540) hx hb dW_law_512 (by decide) (fun _ => ?_) (fun c9 => absurd (sring S T (xs (k + 1)) hRST) c9)
      exact hgo ad md S _ (hTh S T hRST) rfl rfl H locs hP hD hS
    · refine lv_tableIn (off := 485) (tgt := 517) hx hb dW_law_32 (by decide) (by decide) rfl (by decide) ?_
      refine lv_aload_n hx hb dW_law_517 rfl (lv_at hl 1 rfl) ?_
      refine lv_aload_n hx hb dW_law_518 rfl (lv_at hl 0 rfl) ?_
      refine lv_iload_n hx hb dW_law_519 rfl (lv_at hl 3 rfl) ?_
      refine lv_iconst (v := 1) hx hb dW_law_520 (by decide) ?_
      refine lv_iadd hx hb dW_law_521 ?_
      refine ka_sld (k := k + 1) hx hb hX hbl hbA hS (by omega) (by omega) (nI_add k 1) dW_law_522 ?_
      refine kc_L (As := [.int (xs (k + 1))]) (rest := []) ⟨hx, hb, hml, hown, hts⟩ (dk_count l D τ ad S (xs (k + 1)) oS) (kcwV hts qK_count w_320 rfl rfl ⟨Nat.le_of_ble_eq_true rfl, Nat.le_of_ble_eq_true rfl⟩) hK hP hD hS hA rfl (eK τ ad S) hl.1 rfl rfl (Nat.le_of_ble_eq_true rfl) ⟨Nat.le_of_ble_eq_true rfl, Nat.le_of_ble_eq_true rfl⟩ dW_law_523 (fun H locs hP hD hS => ?_)
      refine lv_aload_n hx hb dW_law_526 rfl (lv_at hl 2 rfl) ?_
      refine lv_aload_n hx hb dW_law_527 rfl (lv_at hl 0 rfl) ?_
      refine lv_iload_n hx hb dW_law_528 rfl (lv_at hl 3 rfl) ?_
      refine lv_iconst (v := 1) hx hb dW_law_529 (by decide) ?_
      refine lv_iadd hx hb dW_law_530 ?_
      refine ka_sld (k := k + 1) hx hb hX hbl hbA hS (by omega) (by omega) (nI_add k 1) dW_law_531 ?_
      refine kc_L (As := [.int (xs (k + 1))]) (rest := [.int (fCount S (xs (k + 1)))]) ⟨hx, hb, hml, hown, hts⟩ (dm_count l D τ md T (xs (k + 1)) oT) (kcwV hts qM_count1 w_504 rfl rfl ⟨Nat.le_of_ble_eq_true rfl, Nat.le_of_ble_eq_true rfl⟩) hK hP hD hS hA rfl (eM τ md T) hl.1 rfl rfl (Nat.le_of_ble_eq_true rfl) ⟨Nat.le_of_ble_eq_true rfl, Nat.le_of_ble_eq_true rfl⟩ dW_law_532 (fun H locs hP hD hS => ?_)
      refine lv_icmp_eq (tgt := 540) hx hb dW_law_535 (by decide) (fun _ => ?_) (fun c9 => absurd (scount S T (xs (k + 1)) hRST) c9)
      exact hgo ad md S _ (hTh S T hRST) rfl rfl H locs hP hD hS
