/-! ===== THE VIRTUAL MACHINE'S VIEW: all cells of class and model, by number in the order in which they are made; memory = ints by (cell, slot) ===== -/
abbrev vm_M : Type := Nat → Nat → Int32
abbrev vm_G : Type := Launch × va_G × (Nat → Nat) × (Nat → ClassId)
abbrev vm_C : Type := Program × Env × Room × State × MethodId × Array Value × List Frame × Method × Code × Nat × Nat × (State → Prop) × (Nat → Prop)
abbrev vm_Y : Type := MethodName × ByteArray × Nat × Option FieldType
abbrev vm_S : Type := Nat × Nat × List (Option Nat)
def vm_pathS (b : Nat) : List vm_S := [(2, 10, [some (b + 1), some (b + 2), some (b + 3), some (b + 4), some (b + 5)]), (9, 6, []), (9, 6, []), (9, 6, []), (9, 6, []), (9, 6, [])]
def vm_rowS (a : Nat) : List vm_S := [(4, 4, [some (a + 1)]), (9, 40, [])]
/-- every cell's kind (an object's class in vwCl; 9 int[], 10 char[], 11 boolean[], 12 Row[], 13 Path[]), its length, what its slots refer to -/
def vm_shs : List vm_S :=
  [(7, 13, [some 1, some 2, some 5, some 11, some 17, some 23, some 24, some 25, some 171, some 173]),
   (12, 8, (List.range 8).map (fun i => some (174 + 2 * i))),
   (3, 6, [some 3]), (5, 2, [some 4]), (10, 400, [])] ++ vm_pathS 5 ++ vm_pathS 11 ++ vm_pathS 17 ++
  [(13, 2, [some 190, some 196]), (11, 2, []), (1, 3, [some 26]), (13, 24, (List.range 24).map (fun i => some (27 + 6 * i)))] ++
  (List.range 24).flatMap (fun i => vm_pathS (27 + 6 * i)) ++
  [(6, 2, [some 172]), (9, 16, []), (0, 2, [])] ++ (List.range 8).flatMap (fun i => vm_rowS (174 + 2 * i)) ++ vm_pathS 190 ++ vm_pathS 196 ++
  [(8, 21, [some 203, some 204, none, some 205, none, none, none, some 206, some 207, some 208, some 209, none, none, none, none, none, none, some 210]),
   (9, 124, []), (9, 336, []), (9, 400, []), (9, 8, []), (9, 8, []), (9, 320, []), (9, 16, []), (9, 24, [])]
def vm_N : Nat := 211
theorem vm_shs_len : vm_shs.length = vm_N := by decide +kernel
def vm_sh (k : Nat) : vm_S := vm_shs.getD k (99, 0, [])
def vm_rf (k j : Nat) : Option Nat := ((vm_sh k).2.2[j]?).join
def vm_rv (ρ : Nat → Nat) : Value → Value
  | .ref k => .ref (ρ k)
  | v => v
def vm_slot (ρ : Nat → Nat) (σ : vm_M) (k j : Nat) : Value := match vm_rf k j with
  | some r => .ref (ρ r)
  | none => .int (σ k j)
def vm_cell (G : vm_G) (σ : vm_M) (k : Nat) : va_E :=
  if (vm_sh k).1 < 9 then .inr ((vm_sh k).1, (List.range (vm_sh k).2.1).map (vm_slot G.2.2.1 σ k))
  else if (vm_sh k).1 < 12 then .inl (G.2.2.2 (vm_sh k).1, (vm_sh k).2.1, .inl (σ k))
  else .inl (G.2.2.2 (vm_sh k).1, (vm_sh k).2.1, .inr (.inr (.inr (.inr (fun j => (vm_rf k j).map G.2.2.1)))))
def vm_ws (G : vm_G) (σ : vm_M) : va_W := (List.range vm_N).map (fun k => (G.2.2.1 k, vm_cell G σ k))
def vm_tys (G : vm_G) : List (ClassId × FieldType) := [(G.2.2.2 9, .int), (G.2.2.2 10, .char), (G.2.2.2 11, .boolean), (G.2.2.2 12, .object "ErrandLanes$Row"), (G.2.2.2 13, .object "ErrandLanes$Path")]
/-- the cells that methods may write -/
def vm_A (G : vm_G) : Nat → Prop := fun q => ∃ k, k < vm_N ∧ q = G.2.2.1 k
/-- the words that every method has -/
def vm_wsA : List Cond := lw_tbl.filter goodWord
/-- static arrays and texts of the class: their numbers 1000 .. are no cells of the world -/
def vm_isToo : List Int32 := [0, 0, 1, 1, 0, 4]
def vm_sizeB : List Int32 := [10, 11, 12, 0, 13, 14]
def vm_markB : List Int32 := [20, 21, 24, 22, 23, 0]
def vm_tx : List (Nat × String × List Int32) := [(41, "person", [112, 101, 114, 115, 111, 110]), (60, "path", [112, 97, 116, 104]), (107, "fat", [102, 97, 116]), (109, "boy", [98, 111, 121]), (111, "monk", [109, 111, 110, 107]), (113, "widow", [119, 105, 100, 111, 119]), (115, "cow", [99, 111, 119])]
def vm_St (ρ : Nat → Nat) (A : Nat → Prop) (U : State) (H : Heap) : Prop :=
  (va_Z "ErrandLanes" "IS_TOO" "[I" (.ref (ρ 1000)) A U H ∧ va_Z "ErrandLanes" "SIZE_BODIES" "[I" (.ref (ρ 1001)) A U H ∧ va_Z "ErrandLanes" "MARK_BODIES" "[I" (.ref (ρ 1002)) A U H) ∧
  (va_T .int (ρ 1000) 6 (fun j => .int (vm_isToo.getD j 0)) A U H ∧ va_T .int (ρ 1001) 6 (fun j => .int (vm_sizeB.getD j 0)) A U H ∧ va_T .int (ρ 1002) 6 (fun j => .int (vm_markB.getD j 0)) A U H) ∧
  (va_Z "java/lang/String" "COMPACT_STRINGS" "Z" (.int 1) A U H ∧ (va_Z "jdk/internal/util/Preconditions" "SIOOBE_FORMATTER" "Ljava/util/function/BiFunction;" .null A U H ∨ va_Z "jdk/internal/util/Preconditions" "SIOOBE_FORMATTER" "Ljava/util/function/BiFunction;" (.ref (ρ 4001)) A U H)) ∧
  vk_S 7 (vm_tx.map (fun q => q.2.2.length)) (vm_tx.map (fun q => q.2.2)) (fun i => ρ (2000 + i)) (fun i => ρ (3000 + i)) A U H ∧
  (∀ i q, vm_tx[i]? = some q → vk_R "ErrandLanes$Reader" q.1 q.2.1 (ρ (2000 + i)) U) ∧
  va_Nw (.methodLinkNest "ErrandLanes$Row" 26 ⟨"ErrandLanes", "isWithin", "(II)Z"⟩ "ErrandLanes") U
theorem vm_St.move {ρ : Nat → Nat} {A B : Nat → Prop} {s U : State} {H : Heap} {locs : List Loc} (h : vm_St ρ A s s.heap) (hW : s.WarmedH U.vm) (hS : va_S A s.heap H locs) (hH : U.heap = H) (hAB : ∀ q, B q → A q) : vm_St ρ B U U.heap := by
  subst hH
  obtain ⟨⟨a1, a2, a3⟩, ⟨b1, b2, b3⟩, ⟨c1, c2⟩, d1, e1, f1⟩ := h
  have hv := hW.alike
  have hq := hS.2.1
  exact ⟨⟨((a1.kept hq).moved hv).narrow hAB, ((a2.kept hq).moved hv).narrow hAB, ((a3.kept hq).moved hv).narrow hAB⟩,
    ⟨((b1.kept hq).moved hv).narrow hAB, ((b2.kept hq).moved hv).narrow hAB, ((b3.kept hq).moved hv).narrow hAB⟩,
    ⟨((c1.kept hq).moved hv).narrow hAB, c2.imp (fun z => ((z.kept hq).moved hv).narrow hAB) (fun z => ((z.kept hq).moved hv).narrow hAB)⟩,
    ((d1.kept hq).moved hv).narrow hAB, fun i q hi => (e1 i q hi).warm hW, va_Nw.warmM hW f1⟩
theorem vm_St.same {ρ : Nat → Nat} {A : Nat → Prop} {u U : State} (h : vm_St ρ A u u.heap) (hv : U.vm = u.vm) (hH : U.heap = u.heap) : vm_St ρ A U U.heap := by
  obtain ⟨⟨a1, a2, a3⟩, ⟨b1, b2, b3⟩, ⟨c1, c2⟩, d1, e1, f1⟩ := h
  have hv2 : u.vm.Alike U.vm := by rw [hv]; exact Vm.Alike.refl _
  rw [hH]
  exact ⟨⟨a1.moved hv2, a2.moved hv2, a3.moved hv2⟩, ⟨b1.moved hv2, b2.moved hv2, b3.moved hv2⟩, ⟨c1.moved hv2, c2.imp (fun z => z.moved hv2) (fun z => z.moved hv2)⟩, d1.moved hv2,
    fun i q hi => (e1 i q hi).same hv, va_Nw.same rfl hv.symm f1⟩
def vm_inj (G : vm_G) : Prop := ∀ i j, i < vm_N → j < vm_N → G.2.2.1 i = G.2.2.1 j → i = j
def vm_R (G : vm_G) (σ : vm_M) (U : State) : Prop := va_P G.2.1 vwCl (vm_ws G σ) U.heap ∧ va_K G.2.1 vwCl (vm_tys G) U ∧ vm_St G.2.2.1 (vm_A G) U U.heap ∧ vm_inj G
theorem vm_R.same {G : vm_G} {σ : vm_M} {u U : State} (h : vm_R G σ u) (hv : U.vm = u.vm) (hH : U.heap = u.heap) : vm_R G σ U := by
  obtain ⟨h1, h2, h3, h4⟩ := h
  exact ⟨by rw [hH]; exact h1, va_K.moved (by rw [hv]; exact Vm.Alike.refl _) h2, h3.same hv hH, h4⟩
theorem vm_ws_at {G : vm_G} {σ : vm_M} {k : Nat} (hk : k < vm_N) : (vm_ws G σ)[k]? = some (G.2.2.1 k, vm_cell G σ k) := by
  simp [vm_ws, hk]
theorem vm_ws_inv {G : vm_G} {σ : vm_M} {k : Nat} {q : Nat × va_E} (h : (vm_ws G σ)[k]? = some q) : k < vm_N ∧ q = (G.2.2.1 k, vm_cell G σ k) := by
  have hk : k < vm_N := by
    have := (List.getElem?_eq_some_iff.mp h).1
    simpa [vm_ws] using this
  rw [vm_ws_at hk] at h
  exact ⟨hk, (Option.some.inj h).symm⟩
theorem vm_D {G : vm_G} {σ : vm_M} {A : Nat → Prop} (hi : vm_inj G) (hA : ∀ k, k < vm_N → A (G.2.2.1 k)) : va_D A (vm_ws G σ) := by
  refine ⟨fun i j p q hp hq e => ?_, fun k q hk => ?_⟩
  · obtain ⟨h1, rfl⟩ := vm_ws_inv hp
    obtain ⟨h2, rfl⟩ := vm_ws_inv hq
    exact hi i j h1 h2 e
  · obtain ⟨h1, rfl⟩ := vm_ws_inv hk
    exact hA k h1
def vm_lv (ρ : Nat → Nat) : Nat → List (Option Value) → List (Nat × Value)
  | _, [] => []
  | i, none :: l => vm_lv ρ (i + 1) l
  | i, some v :: l => (i, vm_rv ρ v) :: vm_lv ρ (i + 1) l
theorem vm_lv_mem {ρ : Nat → Nat} : ∀ (l : List (Option Value)) (b i : Nat) (v : Value), l[i]? = some (some v) → (b + i, vm_rv ρ v) ∈ vm_lv ρ b l
  | [], b, i, v, h => by simp at h
  | none :: l, b, 0, v, h => by simp at h
  | some w :: l, b, 0, v, h => by simp at h; subst h; simp [vm_lv]
  | none :: l, b, i + 1, v, h => by
    have := vm_lv_mem (ρ := ρ) l (b + 1) i v (by simpa using h)
    simp only [vm_lv]
    rwa [show b + 1 + i = b + (i + 1) by omega] at this
  | some w :: l, b, i + 1, v, h => by
    have := vm_lv_mem (ρ := ρ) l (b + 1) i v (by simpa using h)
    simp only [vm_lv]
    rw [show b + 1 + i = b + (i + 1) by omega] at this
    exact List.mem_cons_of_mem _ this
theorem vm_lv_inv {ρ : Nat → Nat} : ∀ (l : List (Option Value)) (b : Nat) (q : Nat × Value), q ∈ vm_lv ρ b l → ∃ i v, l[i]? = some (some v) ∧ q = (b + i, vm_rv ρ v)
  | [], b, q, h => by simp [vm_lv] at h
  | none :: l, b, q, h => by
    obtain ⟨i, v, h1, h2⟩ := vm_lv_inv (ρ := ρ) l (b + 1) q (by simpa [vm_lv] using h)
    exact ⟨i + 1, v, by simpa using h1, by rw [h2]; congr 1; omega⟩
  | some w :: l, b, q, h => by
    simp only [vm_lv, List.mem_cons] at h
    rcases h with rfl | h
    · exact ⟨0, w, rfl, rfl⟩
    · obtain ⟨i, v, h1, h2⟩ := vm_lv_inv (ρ := ρ) l (b + 1) q h
      exact ⟨i + 1, v, by simpa using h1, by rw [h2]; congr 1; omega⟩
abbrev vm_cp (C : vm_C) := C.1
abbrev vm_ce (C : vm_C) := C.2.1
abbrev vm_cR (C : vm_C) := C.2.2.1
abbrev vm_cs (C : vm_C) := C.2.2.2.1
abbrev vm_cm (C : vm_C) := C.2.2.2.2.1
abbrev vm_ca (C : vm_C) := C.2.2.2.2.2.1
abbrev vm_cb (C : vm_C) := C.2.2.2.2.2.2.1
abbrev vm_cM (C : vm_C) := C.2.2.2.2.2.2.2.1
abbrev vm_cc (C : vm_C) := C.2.2.2.2.2.2.2.2.1
abbrev vm_ck (C : vm_C) := C.2.2.2.2.2.2.2.2.2.1
abbrev vm_cn (C : vm_C) := C.2.2.2.2.2.2.2.2.2.2.1
abbrev vm_cZ (C : vm_C) := C.2.2.2.2.2.2.2.2.2.2.2.1
abbrev vm_cA (C : vm_C) := C.2.2.2.2.2.2.2.2.2.2.2.2
/-- the machine at pc of a frame with these locals, this operand stack, this memory comes to its end -/
def vm_Ex (G : vm_G) (C : vm_C) (nL pc : Nat) (ls : List (Option Value)) (st : List Value) (σ : vm_M) : Prop :=
  ∀ (H : Heap) (locs : List Loc) (la : Array Slot), va_P G.2.1 vwCl (vm_ws G σ) H → va_S (vm_cA C) (vm_cs C).heap H locs → lv_has la nL (vm_lv G.2.2.1 0 ls) →
    W (vm_cp C) G.1 (vm_ce C) (vm_cR C) (vm_cs C) (vm_cm C) (vm_ca C) (vm_cb C) (vm_cM C) (vm_cc C) H locs (vm_ck C) (vm_cn C) (vm_cZ C) (F0 (vm_cm C) pc la (st.map (vm_rv G.2.2.1)))
/-- what stays true all along a frame -/
def vm_F (G : vm_G) (C : vm_C) (cc : ByteArray) (own : String) (nL d : Nat) : Prop :=
  (vm_cp C).tables.exec = Jvm.exec ∧ (vm_cc C).code = cc ∧ (vm_cc C).maxLocals = nL ∧ (vm_cs C).vm.findClass own = some (vm_cm C).cls ∧ (∀ w ∈ vm_wsA, w.before (vm_ca C) (vm_cs C) = true) ∧
  va_K G.2.1 vwCl (vm_tys G) (vm_cs C) ∧ vm_St G.2.2.1 (vm_cA C) (vm_cs C) (vm_cs C).heap ∧ (∀ k, k < vm_N → vm_cA C (G.2.2.1 k)) ∧ vm_inj G ∧
  d ≤ (vm_cR C).frames ∧ 40 * d ≤ (vm_cR C).locals ∧ vm_ck C ≤ (vm_cR C).cells ∧ vm_cn C ≤ (vm_cR C).slots
/-- two memories that the cells can't tell apart -/
theorem vm_conv {G : vm_G} {C : vm_C} {nL pc : Nat} {ls : List (Option Value)} {st : List Value} {σ σ' : vm_M} (h : ∀ k, k < vm_N → vm_cell G σ k = vm_cell G σ' k) (k : vm_Ex G C nL pc ls st σ') : vm_Ex G C nL pc ls st σ := by
  have e : vm_ws G σ = vm_ws G σ' := by
    unfold vm_ws
    refine List.map_congr_left (fun k hk => ?_)
    rw [h k (List.mem_range.mp hk)]
  intro H locs la hP
  rw [e] at hP
  exact k H locs la hP
def vm_upd (σ : vm_M) (a k : Nat) (v : Int32) : vm_M := fun o => if o = a then upd (σ a) k v else σ o
theorem vm_upd_a (σ : vm_M) (a k : Nat) (v : Int32) : vm_upd σ a k v a = upd (σ a) k v := by simp [vm_upd]
theorem vm_upd_n (σ : vm_M) {a o : Nat} (k : Nat) (v : Int32) (h : o ≠ a) : vm_upd σ a k v o = σ o := by simp [vm_upd, h]
theorem vm_cell_upd_n {G : vm_G} {σ : vm_M} {a k j : Nat} {v : Int32} (h : k ≠ a) : vm_cell G (vm_upd σ a j v) k = vm_cell G σ k := by
  have e : vm_upd σ a j v k = σ k := vm_upd_n σ j v h
  have e2 : vm_slot G.2.2.1 (vm_upd σ a j v) k = vm_slot G.2.2.1 σ k := by funext i; simp only [vm_slot, e]
  unfold vm_cell
  rw [e2, e]
theorem vm_ws_upd {G : vm_G} {σ : vm_M} {a j : Nat} {v : Int32} (ha : a < vm_N) : vm_ws G (vm_upd σ a j v) = (vm_ws G σ).set a (G.2.2.1 a, vm_cell G (vm_upd σ a j v) a) := by
  refine List.ext_getElem? (fun k => ?_)
  by_cases hk : k < vm_N
  · rw [vm_ws_at hk]
    by_cases e : k = a
    · subst e
      rw [List.getElem?_set_self (by simpa [vm_ws] using hk)]
    · rw [List.getElem?_set_ne (Ne.symm e), vm_ws_at hk, vm_cell_upd_n e]
  · have h1 : (vm_ws G (vm_upd σ a j v)).length ≤ k := by simp [vm_ws]; omega
    have h2 : ((vm_ws G σ).set a (G.2.2.1 a, vm_cell G (vm_upd σ a j v) a)).length ≤ k := by simp [vm_ws]; omega
    rw [List.getElem?_eq_none h1, List.getElem?_eq_none h2]
/-- methods: contracts -/
def vm_ws1 (y : vm_Y) : List Cond := Cond.code y.1 y.2.1 y.2.2.1 y.2.2.2 :: vm_wsA
def vm_rm (d : Nat) : Room := { frames := d, cells := 0, slots := 0, locals := 40 * d }
def vm_Pre (G : vm_G) (args : List Value) (σ : vm_M) : Array Value → State → Prop := va_Pc (args.map (vm_rv G.2.2.1)) (vm_R G σ)
def vm_RI (G : vm_G) (d : Nat) (y : vm_Y) (args : List Value) (σ : vm_M) (post : Int32 → vm_M → Prop) : Prop := Met G.1 y.1 (vm_ws1 y) (vm_rm d) (vm_Pre G args σ) (va_Qi post (vm_R G) (vm_A G)) 0 0 (vm_A G)
def vm_RV (G : vm_G) (d : Nat) (y : vm_Y) (args : List Value) (σ : vm_M) (post : vm_M → Prop) : Prop := Met G.1 y.1 (vm_ws1 y) (vm_rm d) (vm_Pre G args σ) (va_Qv post (vm_R G) (vm_A G)) 0 0 (vm_A G)
theorem vm_blind (G : vm_G) (args : List Value) (σ : vm_M) : FrameBlind (vm_Pre G args σ) := fun a U g mk h => ⟨h.1, h.2.same rfl rfl⟩
def vm_ls (args : List Value) : List (Option Value) := args.flatMap (fun v => if v.category = 2 then [some v, none] else [some v])
theorem vm_ls_at {ρ : Nat → Nat} : ∀ (args : List Value) (n b : Nat), ∀ q ∈ vm_lv ρ b (vm_ls args ++ List.replicate n none), q ∈ lv_args b (args.map (vm_rv ρ))
  | [], n, b, q, h => by
    obtain ⟨i, v, h1, -⟩ := vm_lv_inv _ _ _ h
    simp only [vm_ls, List.flatMap_nil, List.nil_append] at h1
    have := List.mem_of_getElem? h1
    simp at this
  | v :: vs, n, b, q, h => by
    have hc : (vm_rv ρ v).category = v.category := by cases v <;> rfl
    by_cases h2 : v.category = 2
    · simp only [vm_ls, List.flatMap_cons, h2, if_true, List.cons_append, List.nil_append, vm_lv, List.mem_cons] at h
      simp only [List.map_cons, lv_args, hc, h2, if_true, List.mem_cons]
      rcases h with h | h
      · exact Or.inl h
      · exact Or.inr (vm_ls_at vs n (b + 2) q h)
    · simp only [vm_ls, List.flatMap_cons, h2, if_false, List.cons_append, List.nil_append, vm_lv, List.mem_cons] at h
      simp only [List.map_cons, lv_args, hc, h2, if_false, List.mem_cons]
      rcases h with h | h
      · exact Or.inl h
      · exact Or.inr (vm_ls_at vs n (b + 1) q h)
theorem vm_lg_len {ρ : Nat → Nat} : ∀ (args : List Value), (lg_sl (args.map (vm_rv ρ))).length = (lg_sl args).length
  | [] => rfl
  | v :: vs => by
    have hc : (vm_rv ρ v).category = v.category := by cases v <;> rfl
    have ih := vm_lg_len (ρ := ρ) vs
    simp only [lg_sl, List.map_cons, List.flatMap_cons, List.length_append, hc] at ih ⊢
    rw [ih]
    split <;> rfl
/-- a frame's start -/
theorem vm_enter {G : vm_G} {d : Nat} {y : vm_Y} {args : List Value} {σ : vm_M} {Qc : Array Value → State → Outcome → State → Prop} {ls0 : List (Option Value)} (hy : plainName y.1.cls = true) (hlen : (lg_sl args).length ≤ y.2.2.1) (hent : vm_ls args ++ List.replicate (y.2.2.1 - (vm_ls args).length) none = ls0)
    (body : ∀ C : vm_C, vm_F G C y.2.1 y.1.cls y.2.2.1 d → (∀ q, vm_cA C q ↔ vm_A G q) → (vm_cZ C = MQ (vm_cb C) Qc (vm_ca C) (vm_cs C) (vm_ck C) (vm_cn C) (vm_A G)) → (vm_cM C).sig.returnType = y.2.2.2 → (vm_cM C).locks = false → vm_Ex G C y.2.2.1 0 ls0 [] σ) :
    Met G.1 y.1 (vm_ws1 y) (vm_rm d) (vm_Pre G args σ) Qc 0 0 (vm_A G) := by
  refine Met.ofW (cc := y.2.1) (maxL := y.2.2.1) (ret := y.2.2.2) hy rfl ?_
  intro p e s m as below meth c s₁ B hml hv
  obtain ⟨rfl, hP, hK, hSt, hi⟩ := hv
  have hts := atoms_spec (ws := vm_ws1 y) B.pre
  have hown : s.vm.findClass y.1.cls = some m.cls := findClass_of_methodNamed B.named
  have hE := lv_entry (args.map (vm_rv G.2.2.1)) (n := y.2.2.1) (by rw [vm_lg_len]; exact hlen)
  rw [lg_entry_eq]
  have key := body (p, e, (headSpec (vm_ws1 y) (vm_rm d)).room, s, m, (args.map (vm_rv G.2.2.1)).toArray, below, meth, c, 0, 0, MQ below Qc (args.map (vm_rv G.2.2.1)).toArray s 0 0 (vm_A G), vm_A G)
    ⟨B.exec, B.bytes, hml, hown, fun w hw => hts w (List.mem_cons_of_mem _ hw), hK, hSt, fun k hk => ⟨k, hk, rfl⟩, hi, Nat.le_refl _, Nat.le_refl _, Nat.le_refl _, Nat.le_refl _⟩ (fun q => Iff.rfl) rfl B.returns B.notSynchronized
  refine key s.heap [] _ hP va_S.rf ⟨hE.1, hE.2.1, fun q hq => ?_⟩
  rw [← hent] at hq
  exact hE.2.2 q (vm_ls_at args _ 0 q hq)
theorem vm_int {G : vm_G} {d : Nat} {y : vm_Y} {args : List Value} {σ : vm_M} {post : Int32 → vm_M → Prop} {ls0 : List (Option Value)} {ty : FieldType} (hy : plainName y.1.cls = true) (hlen : (lg_sl args).length ≤ y.2.2.1) (hent : vm_ls args ++ List.replicate (y.2.2.1 - (vm_ls args).length) none = ls0) (hr : y.2.2.2 = some ty)
    (body : ∀ C : vm_C, vm_F G C y.2.1 y.1.cls y.2.2.1 d → (∀ (v : Int32) (σ' : vm_M) (pc : Nat) (ls : List (Option Value)), post v σ' → decode y.2.1 pc = .ok (.ireturn, 1) → narrow ty (.int v) = .int v → vm_Ex G C y.2.2.1 pc ls [.int v] σ') → vm_Ex G C y.2.2.1 0 ls0 [] σ) :
    vm_RI G d y args σ post := by
  refine vm_enter hy hlen hent (fun C F hAC hZ hrt hlk => body C F (fun v σ' pc ls hp hd hn H locs la hP hS hl => ?_))
  rw [hZ]
  refine W.zret (v := v) (ty := ty) F.1 F.2.1 (by rw [hrt, hr]) hn (fun t ht hW => ⟨⟨v, σ', rfl, hp, ?_⟩, ?_⟩) (fun q hq => (hAC _).mp (hS.2.2 q hq)) hd hlk
  · exact ⟨by rw [ht]; exact hP, va_K.moved hW.alike F.2.2.2.2.2.1, F.2.2.2.2.2.2.1.move hW hS ht (fun q hq => (hAC q).mpr hq), F.2.2.2.2.2.2.2.2.1⟩
  · exact ⟨by rw [ht]; exact hS.1, fun q h1 h2 => by rw [ht]; exact hS.2.1 q h1 (fun h3 => h2 ((hAC q).mp h3))⟩
theorem vm_void {G : vm_G} {d : Nat} {y : vm_Y} {args : List Value} {σ : vm_M} {post : vm_M → Prop} {ls0 : List (Option Value)} (hy : plainName y.1.cls = true) (hlen : (lg_sl args).length ≤ y.2.2.1) (hent : vm_ls args ++ List.replicate (y.2.2.1 - (vm_ls args).length) none = ls0) (hr : y.2.2.2 = none)
    (body : ∀ C : vm_C, vm_F G C y.2.1 y.1.cls y.2.2.1 d → (∀ (σ' : vm_M) (pc : Nat) (ls : List (Option Value)), post σ' → decode y.2.1 pc = .ok (.return_, 1) → vm_Ex G C y.2.2.1 pc ls [] σ') → vm_Ex G C y.2.2.1 0 ls0 [] σ) :
    vm_RV G d y args σ post := by
  refine vm_enter hy hlen hent (fun C F hAC hZ hrt hlk => body C F (fun σ' pc ls hp hd H locs la hP hS hl => ?_))
  rw [hZ]
  refine W.vret F.1 F.2.1 (by rw [hrt, hr]) (fun t ht hW => ⟨⟨σ', rfl, hp, ?_⟩, ?_⟩) (fun q hq => (hAC _).mp (hS.2.2 q hq)) hd hlk
  · exact ⟨by rw [ht]; exact hP, va_K.moved hW.alike F.2.2.2.2.2.1, F.2.2.2.2.2.2.1.move hW hS ht (fun q hq => (hAC q).mpr hq), F.2.2.2.2.2.2.2.2.1⟩
  · exact ⟨by rw [ht]; exact hS.1, fun q h1 h2 => by rw [ht]; exact hS.2.1 q h1 (fun h3 => h2 ((hAC q).mp h3))⟩
