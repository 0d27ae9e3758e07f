/-! what the class computes, as functions of numbers and rows (Nat → Int32), in the order of its own code -/
noncomputable def kIf {α : Type} (P : Prop) (a b : α) : α := @ite α P (Classical.propDecidable P) a b
theorem kIf_t {α : Type} {P : Prop} {a b : α} (h : P) : kIf P a b = a := by unfold kIf; exact if_pos h
theorem kIf_f {α : Type} {P : Prop} {a b : α} (h : ¬ P) : kIf P a b = b := by unfold kIf; exact if_neg h
abbrev kF : Type := Nat → Int32
def kNo : kF := fun _ => (-1000000)
-- the net
def kNode (N : Nat) (v : Int32) : Prop := ¬ v < 0 ∧ ¬ nI N ≤ v
def kTwo (N : Nat) (a b : Int32) : Prop := kNode N a ∧ kNode N b ∧ ¬ a = b
noncomputable def kArcs (ar had x : Int32) : Int32 := kIf (had = (-1000000) ∧ ¬ x = (-1000000)) (ar + 1) (kIf (¬ had = (-1000000) ∧ x = (-1000000)) (ar - 1) ar)
-- least ways
def kBet (d h : kF) (v : Nat) (x y : Int32) : Prop := d v = (-1000000) ∨ x < d v ∨ (x = d v ∧ y < h v)
noncomputable def kFol (len : kF) (u v : Nat) (st : kF × kF × Int32) : kF × kF × Int32 :=
  kIf (len (u * 24 + v) = (-1000000)) st (kIf (kBet st.1 st.2.1 v (st.1 u + len (u * 24 + v)) (st.2.1 u + 1)) (upd st.1 v (st.1 u + len (u * 24 + v)), upd st.2.1 v (st.2.1 u + 1), st.2.2 ||| ((1 : Int32) <<< (nI v &&& 31))) st)
noncomputable def kFolA (N : Nat) (len : kF) (u : Nat) (d h : kF) : kF × kF × Int32 := kItr (kFol len u) N (d, h, 0)
noncomputable def kRnd1 (N : Nat) (len : kF) (go : Int32) (u : Nat) (st : kF × kF × Int32) : kF × kF × Int32 :=
  kIf ((go >>> (nI u &&& 31)) &&& 1 = 0) st ((kFolA N len u st.1 st.2.1).1, (kFolA N len u st.1 st.2.1).2.1, st.2.2 ||| (kFolA N len u st.1 st.2.1).2.2)
noncomputable def kRnd (N : Nat) (len : kF) (_ : Nat) (st : kF × kF × Int32) : kF × kF × Int32 :=
  kIf (st.2.2 = 0) st (kItr (kRnd1 N len st.2.2) N (st.1, st.2.1, 0))
noncomputable def kRel (N : Nat) (len : kF) (x : Nat) : kF × kF × Int32 := kItr (kRnd N len) N (upd kNo x 0, upd kNo x 0, (1 : Int32) <<< (nI x &&& 31))
noncomputable def kTg (len d h : kF) (u v : Nat) (st : kF × Int32) : kF × Int32 :=
  kIf (len (u * 24 + v) = (-1000000)) st (kIf (d u + len (u * 24 + v) = d v) (kIf (st.1 v = (-1000000) ∧ h u + 1 = h v) (upd st.1 v (nI u), st.2 + 1) (st.1, st.2 + 1)) st)
noncomputable def kTgU (N : Nat) (len d h : kF) (u : Nat) (st : kF × Int32) : kF × Int32 := kIf (d u = (-1000000)) st (kItr (kTg len d h u) N st)
abbrev kLW : Type := kF × kF × kF × Int32
noncomputable def kSet (N : Nat) (len : kF) (x : Nat) : kLW :=
  ((kRel N len x).1, (kRel N len x).2.1, (kItr (kTgU N len (kRel N len x).1 (kRel N len x).2.1) N (kNo, 0)).1, (kItr (kTgU N len (kRel N len x).1 (kRel N len x).2.1) N (kNo, 0)).2)
noncomputable def kSettle (N : Nat) (len : kF) (x : Int32) : kLW := kIf (kNode N x) (kSet N len x.toNatClampNeg) (kNo, kNo, kNo, 0)
noncomputable def kDif (d h p d' h' p' : kF) (v : Nat) (st : Int32) : Int32 := kIf (d v = d' v ∧ h v = h' v ∧ p v = p' v) st (st ||| ((1 : Int32) <<< (nI v &&& 31)))
noncomputable def kDiff (a b : kLW) : Int32 := kItr (kDif a.1 a.2.1 a.2.2.1 b.1 b.2.1 b.2.2.1) 24 0
/-- one step back by parents -/
noncomputable def kBack (p : kF) (_ : Nat) (x : Int32) : Int32 := kIf (x < 0) x (p x.toNatClampNeg)
theorem k_ix (i j : Nat) : nI i * 24 + nI j = nI (i * 24 + j) := by rw [show (24 : Int32) = nI 24 from rfl, pk_mul, nI_add]
theorem kNode_n {N : Nat} {x : Int32} (hN : N ≤ 24) (h : kNode N x) : ∃ j, j < N ∧ x = nI j := by
  rcases pk_ix x (n := N) (by omega) with q | q | q
  · exact absurd q h.1
  · exact absurd q h.2
  · exact q
theorem kNode_i {N j : Nat} (hN : N ≤ 24) (h : j < N) : kNode N (nI j) := ⟨nI_pos (by omega), nI_ge h (by omega)⟩
theorem kArr_eq {cA : ClassId} {n : Nat} {f g : Nat → Int32} (h : ∀ j, j < n → f j = g j) : vp_cell cA (n, .inl f) = vp_cell cA (n, .inl g) := by
  rw [vp_cell_i, vp_cell_i]
  unfold arrV
  congr 1
  congr 1
  funext j
  show Value.int (f j.val) = Value.int (g j.val)
  rw [h j.val j.isLt]
theorem kP_re {D : va_G} {cl : List vw_C} {ws : va_W} {H : Heap} (hP : va_P D cl ws H) (k : Nat) {a n : Nat} {cA : ClassId} {f g : Nat → Int32} (hk : ws[k]? = some (a, .inl (cA, n, .inl f))) (h : ∀ j, j < n → f j = g j) : va_P D cl (ws.set k (a, .inl (cA, n, .inl g))) H := by
  intro i q hi
  by_cases z : i = k
  · subst z
    have hlt : i < ws.length := (List.getElem?_eq_some_iff.mp hk).1
    rw [List.getElem?_set_self hlt] at hi
    cases hi
    have := hP i _ hk
    show H[a]? = some (vp_cell cA (n, .inl g))
    rw [← kArr_eq h]
    exact this
  · rw [List.getElem?_set_ne (fun q => z q.symm)] at hi
    exact hP i q hi
theorem kFill (x : Int32) (g : Nat → Int32) : ∀ n j, j < n → kItr (fun k f => upd f k x) n g j = x := by
  intro n
  induction n with
  | zero => intro j hj; exact absurd hj (Nat.not_lt_zero _)
  | succ n ih =>
    intro j hj
    rw [kItr_s]
    by_cases z : j = n
    · subst z; exact pk_us
    · rw [pk_un z]; exact ih j (by omega)
/-- the rounds stop where nothing was improved -/
theorem kRnd_stop {N : Nat} {len : kF} {s0 : kF × kF × Int32} {k : Nat} {d h : kF} {imp : Int32} (e : kItr (kRnd N len) k s0 = (d, h, imp)) (h0 : imp = 0) : ∀ n, kItr (kRnd N len) (k + n) s0 = (d, h, imp) := by
  intro n
  induction n with
  | zero => exact e
  | succ n ih =>
    rw [← Nat.add_assoc, kItr_s, ih]
    unfold kRnd
    exact kIf_t h0
theorem kBack_stop {p : kF} {s0 : Int32} {k : Nat} {x : Int32} (e : kItr (kBack p) k s0 = x) (h0 : x < 0) : ∀ n, kItr (kBack p) (k + n) s0 = x := by
  intro n
  induction n with
  | zero => exact e
  | succ n ih =>
    rw [← Nat.add_assoc, kItr_s, ih]
    unfold kBack
    exact kIf_t h0
/-- the parents are nodes, or none -/
def kPar (p : kF) : Prop := ∀ j, j < 24 → p j < 0 ∨ ∃ u, u < 24 ∧ p j = nI u
theorem kBack_t {p : kF} {n : Nat} {x : Int32} (h : x < 0) : kBack p n x = x := by unfold kBack; exact kIf_t h
theorem kBack_f {p : kF} {n : Nat} {x : Int32} (h : ¬ x < 0) : kBack p n x = p x.toNatClampNeg := by unfold kBack; exact kIf_f h
theorem kBack_in {p : kF} (hp : kPar p) {v : Nat} (hv : v < 24) : ∀ n, kItr (kBack p) n (nI v) < 0 ∨ ∃ u, u < 24 ∧ kItr (kBack p) n (nI v) = nI u := by
  intro n
  induction n with
  | zero => exact Or.inr ⟨v, hv, rfl⟩
  | succ n ih =>
    rw [kItr_s]
    rcases ih with g | ⟨u, h1, h2⟩
    · rw [kBack_t g]
      exact Or.inl g
    · rw [h2, kBack_f (nI_pos (by omega)), nI_clamp (by omega)]
      exact hp u h1
theorem k_m1 (x : Int32) : x + (-1) = x - 1 := by rw [Int32.sub_eq_add_neg]
-- what is kept
def kKk (K : Nat) : Nat := if K < 40 then K + 1 else K
def kKo (K O : Nat) : Nat := if K < 40 then O else (O + 1) % 41
noncomputable def kTb (bg en ln : kF) (sl S k : Nat) (st : Int32 × kF) : Int32 × kF :=
  (kArcs st.1 (st.2 ((bg (sl * 30 + (S - k - 1))).toNatClampNeg * 24 + (en (sl * 30 + (S - k - 1))).toNatClampNeg)) (ln (sl * 30 + (S - k - 1))), upd st.2 ((bg (sl * 30 + (S - k - 1))).toNatClampNeg * 24 + (en (sl * 30 + (S - k - 1))).toNatClampNeg) (ln (sl * 30 + (S - k - 1))))
