theorem vm_mem {w : Cond} (i : Nat) (h : lw_tbl[i]? = some w) (g : goodWord w = true) : w ∈ vm_wsA := List.mem_filter.mpr ⟨List.mem_of_getElem? h, g⟩
theorem vm_good {ws : List Cond} (h : ∀ w ∈ ws, w ∈ vm_wsA) : GoodIn vm_wsA ws := fun w hw => ⟨h w hw, good_of_word (List.mem_filter.mp (h w hw)).2⟩
theorem vm_lt {a ci N : Nat} {rs : List (Option Nat)} (hs : vm_sh a = (ci, N, rs)) (hci : ci < 99) : a < vm_N := by
  rcases Nat.lt_or_ge a vm_N with h | h
  · exact h
  · have : vm_sh a = (99, 0, []) := by
      unfold vm_sh
      rw [List.getD_eq_getElem?_getD, List.getElem?_eq_none (by rw [vm_shs_len]; exact h)]
      rfl
    rw [this] at hs
    cases hs
    omega
theorem vm_cell_o {G : vm_G} {σ : vm_M} {a ci N : Nat} {rs : List (Option Nat)} (hs : vm_sh a = (ci, N, rs)) (hci : ci < 9) : vm_cell G σ a = .inr (ci, (List.range N).map (vm_slot G.2.2.1 σ a)) := by
  unfold vm_cell
  rw [hs, if_pos hci]
theorem vm_cell_i {G : vm_G} {σ : vm_M} {a ci N : Nat} {rs : List (Option Nat)} (hs : vm_sh a = (ci, N, rs)) (h1 : ¬ ci < 9) (h2 : ci < 12) : vm_cell G σ a = .inl (G.2.2.2 ci, N, .inl (σ a)) := by
  unfold vm_cell
  rw [hs, if_neg h1, if_pos h2]
theorem vm_cell_r {G : vm_G} {σ : vm_M} {a ci N : Nat} {rs : List (Option Nat)} (hs : vm_sh a = (ci, N, rs)) (h1 : ¬ ci < 9) (h2 : ¬ ci < 12) : vm_cell G σ a = .inl (G.2.2.2 ci, N, .inr (.inr (.inr (.inr (fun j => (vm_rf a j).map G.2.2.1))))) := by
  unfold vm_cell
  rw [hs, if_neg h1, if_neg h2]
section
variable {G : vm_G} {C : vm_C} {cc : ByteArray} {own C' : String} {T : u_T} {N ci nL d pc idx a : Nat} {ls : List (Option Value)} {st : List Value} {σ : vm_M} {rs : List (Option Nat)}
theorem q_getI (hin : ∀ w ∈ u_ws C' T N, w ∈ vm_wsA) (hc : vwCl[ci]? = some (C', T, N)) (k : Nat) (hk : k < N) (hT : (T k).1 = C') (hw : Cond.fieldLink own idx C' (T k).2.1 (T k).2.2.1 ∈ vm_wsA) (hci : ci < 9) (F : vm_F G C cc own nL d) (dd : decode cc pc = .ok (.getfield idx, 3)) (hs : vm_sh a = (ci, N, rs)) (hr : (rs[k]?).join = none)
    (kk : vm_Ex G C nL (pc + 3) ls (.int (σ a k) :: st) σ) : vm_Ex G C nL pc ls (.ref a :: st) σ := by
  intro H locs la hP hS hl
  have hz : vm_slot G.2.2.1 σ a k = .int (σ a k) := by simp [vm_slot, vm_rf, hs, hr]
  refine va_get (ci := ci) (v := .int (σ a k)) (C := C') (T := T) (N := N) (ref := C') F.1 F.2.1 F.2.2.2.2.1 hin F.2.2.2.1 F.2.2.2.2.2.1 hP a (by rw [vm_ws_at (vm_lt hs (by omega)), vm_cell_o hs hci]) hc k hk (F.2.2.2.2.1 _ hw) (by rw [hT]; exact fun _ h => h) (by simp [hk, hz]) dd (kk H locs la hP hS hl)
theorem q_getR (hin : ∀ w ∈ u_ws C' T N, w ∈ vm_wsA) (hc : vwCl[ci]? = some (C', T, N)) (k : Nat) (hk : k < N) (hT : (T k).1 = C') (hw : Cond.fieldLink own idx C' (T k).2.1 (T k).2.2.1 ∈ vm_wsA) (hci : ci < 9) (F : vm_F G C cc own nL d) (dd : decode cc pc = .ok (.getfield idx, 3)) (hs : vm_sh a = (ci, N, rs)) {r : Nat} (hr : rs[k]? = some (some r))
    (kk : vm_Ex G C nL (pc + 3) ls (.ref r :: st) σ) : vm_Ex G C nL pc ls (.ref a :: st) σ := by
  intro H locs la hP hS hl
  have hz : vm_slot G.2.2.1 σ a k = .ref (G.2.2.1 r) := by simp [vm_slot, vm_rf, hs, hr]
  refine va_get (ci := ci) (v := .ref (G.2.2.1 r)) (C := C') (T := T) (N := N) (ref := C') F.1 F.2.1 F.2.2.2.2.1 hin F.2.2.2.1 F.2.2.2.2.2.1 hP a (by rw [vm_ws_at (vm_lt hs (by omega)), vm_cell_o hs hci]) hc k hk (F.2.2.2.2.1 _ hw) (by rw [hT]; exact fun _ h => h) (by simp [hk, hz]) dd (kk H locs la hP hS hl)
theorem q_putI (hin : ∀ w ∈ u_ws C' T N, w ∈ vm_wsA) (hc : vwCl[ci]? = some (C', T, N)) (k : Nat) (hk : k < N) (hT : (T k).1 = C') (hw : Cond.fieldLink own idx C' (T k).2.1 (T k).2.2.1 ∈ vm_wsA) (hci : ci < 9) (ty0 : Nat → FieldType) (hty : ∀ k, k < N → parseFieldDescriptor (T k).2.2.1 = some (ty0 k)) (hnm : ∀ a, a < N → ∀ b, b < N → a ≠ b → (T a).2.1 ≠ (T b).2.1) (hfin : (T k).2.2.2 = false)
    (F : vm_F G C cc own nL d) (dd : decode cc pc = .ok (.putfield idx, 3)) (hs : vm_sh a = (ci, N, rs)) (hr : (rs[k]?).join = none) {v : Int32} (hn : narrow (ty0 k) (.int v) = .int v ∧ fits (ty0 k) (.int v) = true)
    (kk : vm_Ex G C nL (pc + 3) ls st (vm_upd σ a k v)) : vm_Ex G C nL pc ls (.int v :: .ref a :: st) σ := by
  intro H locs la hP hS hl
  have hlt := vm_lt hs (by omega)
  have hz : vm_cell G (vm_upd σ a k v) a = .inr (ci, ((List.range N).map (vm_slot G.2.2.1 σ a)).set k (vm_rv G.2.2.1 (.int v))) := by
    show _ = Sum.inr (ci, ((List.range N).map (vm_slot G.2.2.1 σ a)).set k (.int v))
    rw [vm_cell_o hs hci]
    congr 2
    refine List.ext_getElem? (fun j => ?_)
    by_cases hj : j < N
    · by_cases e : j = k
      · subst e
        rw [List.getElem?_set_self (by simpa using hj)]
        have : vm_rf a j = none := by simp [vm_rf, hs, hr]
        simp [hj, vm_slot, this, vm_upd, upd]
      · rw [List.getElem?_set_ne (Ne.symm e)]
        simp [hj, vm_slot, vm_upd, upd, e]
    · rw [List.getElem?_eq_none (by simp; omega), List.getElem?_eq_none (by simp; omega)]
  refine va_put (ci := ci) (C := C') (T := T) (N := N) (ref := C') F.1 F.2.1 F.2.2.2.2.1 hin ty0 hty hnm F.2.2.2.1 F.2.2.2.2.2.1 hP (vm_D F.2.2.2.2.2.2.2.2.1 F.2.2.2.2.2.2.2.1) hS a (by rw [vm_ws_at hlt, vm_cell_o hs hci]) hc k hk (F.2.2.2.2.1 _ hw) (by rw [hT]; exact fun _ h => h) hfin (hty k hk) hn.1 hn.2 (by simpa using hk) dd (fun H1 locs1 hP1 hD1 hS1 => ?_)
  rw [← hz, ← vm_ws_upd hlt] at hP1
  exact kk H1 locs1 la hP1 hS1 hl
theorem q_iald {n j : Nat} (F : vm_F G C cc own nL d) (dd : decode cc pc = .ok (.iaload, 1)) (hs : vm_sh a = (9, n, rs)) (hj : j < n) (hn : n < 2 ^ 31) (kk : vm_Ex G C nL (pc + 1) ls (.int (σ a j) :: st) σ) : vm_Ex G C nL pc ls (.int (nI j) :: .ref a :: st) σ := by
  intro H locs la hP hS hl
  refine va_iald F.1 F.2.1 F.2.2.2.2.2.1 hP a 0 (by rw [vm_ws_at (vm_lt hs (by omega)), vm_cell_i hs (by omega) (by omega)]) rfl (vp_in_nI hj hn) dd ?_
  rw [nI_clamp (by omega)]
  exact kk H locs la hP hS hl
theorem q_cald {n j : Nat} (F : vm_F G C cc own nL d) (dd : decode cc pc = .ok (.caload, 1)) (hs : vm_sh a = (10, n, rs)) (hj : j < n) (hn : n < 2 ^ 31) (kk : vm_Ex G C nL (pc + 1) ls (.int (σ a j) :: st) σ) : vm_Ex G C nL pc ls (.int (nI j) :: .ref a :: st) σ := by
  intro H locs la hP hS hl
  refine va_cald F.1 F.2.1 F.2.2.2.2.2.1 hP a 1 (by rw [vm_ws_at (vm_lt hs (by omega)), vm_cell_i hs (by omega) (by omega)]) rfl (vp_in_nI hj hn) dd ?_
  rw [nI_clamp (by omega)]
  exact kk H locs la hP hS hl
theorem q_zald {n j : Nat} (F : vm_F G C cc own nL d) (dd : decode cc pc = .ok (.baload, 1)) (hs : vm_sh a = (11, n, rs)) (hj : j < n) (hn : n < 2 ^ 31) (kk : vm_Ex G C nL (pc + 1) ls (.int (σ a j) :: st) σ) : vm_Ex G C nL pc ls (.int (nI j) :: .ref a :: st) σ := by
  intro H locs la hP hS hl
  refine va_zald F.1 F.2.1 F.2.2.2.2.2.1 hP a 2 (by rw [vm_ws_at (vm_lt hs (by omega)), vm_cell_i hs (by omega) (by omega)]) rfl (vp_in_nI hj hn) dd ?_
  rw [nI_clamp (by omega)]
  exact kk H locs la hP hS hl
theorem vm_cell_upd {n j : Nat} {v : Int32} (hs : vm_sh a = (ci, n, rs)) (h1 : ¬ ci < 9) (h2 : ci < 12) : vm_cell G (vm_upd σ a j v) a = .inl (G.2.2.2 ci, n, .inl (upd (σ a) j v)) := by
  rw [vm_cell_i hs h1 h2, vm_upd_a]
theorem q_iast {n j : Nat} {v : Int32} (F : vm_F G C cc own nL d) (dd : decode cc pc = .ok (.iastore, 1)) (hs : vm_sh a = (9, n, rs)) (hj : j < n) (hn : n < 2 ^ 31) (kk : vm_Ex G C nL (pc + 1) ls st (vm_upd σ a j v)) : vm_Ex G C nL pc ls (.int v :: .int (nI j) :: .ref a :: st) σ := by
  intro H locs la hP hS hl
  have hlt := vm_lt hs (by omega)
  refine va_iast F.1 F.2.1 F.2.2.2.2.2.1 hP (vm_D F.2.2.2.2.2.2.2.2.1 F.2.2.2.2.2.2.2.1) hS a 0 (by rw [vm_ws_at hlt, vm_cell_i hs (by omega) (by omega)]) rfl (vp_in_nI hj hn) dd (fun H1 locs1 hP1 hD1 hS1 => ?_)
  rw [nI_clamp (by omega), ← vm_cell_upd hs (by omega) (by omega), ← vm_ws_upd hlt] at hP1
  exact kk H1 locs1 la hP1 hS1 hl
theorem q_cast {n j : Nat} {v w : Int32} (F : vm_F G C cc own nL d) (dd : decode cc pc = .ok (.castore, 1)) (hs : vm_sh a = (10, n, rs)) (hj : j < n) (hn : n < 2 ^ 31) (hv : vp_nar .char v = w) (kk : vm_Ex G C nL (pc + 1) ls st (vm_upd σ a j w)) : vm_Ex G C nL pc ls (.int v :: .int (nI j) :: .ref a :: st) σ := by
  intro H locs la hP hS hl
  subst hv
  have hlt := vm_lt hs (by omega)
  refine va_cast F.1 F.2.1 F.2.2.2.2.2.1 hP (vm_D F.2.2.2.2.2.2.2.2.1 F.2.2.2.2.2.2.2.1) hS a 1 (by rw [vm_ws_at hlt, vm_cell_i hs (by omega) (by omega)]) rfl (vp_in_nI hj hn) dd (fun H1 locs1 hP1 hD1 hS1 => ?_)
  rw [nI_clamp (by omega), ← vm_cell_upd hs (by omega) (by omega), ← vm_ws_upd hlt] at hP1
  exact kk H1 locs1 la hP1 hS1 hl
theorem q_zast {n j : Nat} {v w : Int32} (F : vm_F G C cc own nL d) (dd : decode cc pc = .ok (.bastore, 1)) (hs : vm_sh a = (11, n, rs)) (hj : j < n) (hn : n < 2 ^ 31) (hv : vp_nar .boolean v = w) (kk : vm_Ex G C nL (pc + 1) ls st (vm_upd σ a j w)) : vm_Ex G C nL pc ls (.int v :: .int (nI j) :: .ref a :: st) σ := by
  intro H locs la hP hS hl
  subst hv
  have hlt := vm_lt hs (by omega)
  refine va_zast F.1 F.2.1 F.2.2.2.2.2.1 hP (vm_D F.2.2.2.2.2.2.2.2.1 F.2.2.2.2.2.2.2.1) hS a 2 (by rw [vm_ws_at hlt, vm_cell_i hs (by omega) (by omega)]) rfl (vp_in_nI hj hn) dd (fun H1 locs1 hP1 hD1 hS1 => ?_)
  rw [nI_clamp (by omega), ← vm_cell_upd hs (by omega) (by omega), ← vm_ws_upd hlt] at hP1
  exact kk H1 locs1 la hP1 hS1 hl
theorem q_aald {n j r : Nat} (F : vm_F G C cc own nL d) (dd : decode cc pc = .ok (.aaload, 1)) (hs : vm_sh a = (ci, n, rs)) (hci : ci = 12 ∨ ci = 13) (hj : j < n) (hn : n < 2 ^ 31) (hr : rs[j]? = some (some r)) (kk : vm_Ex G C nL (pc + 1) ls (.ref r :: st) σ) : vm_Ex G C nL pc ls (.int (nI j) :: .ref a :: st) σ := by
  intro H locs la hP hS hl
  have hz : va_rf ((vm_rf a j).map G.2.2.1) = .ref (G.2.2.1 r) := by simp [vm_rf, hs, hr, va_rf]
  rcases hci with rfl | rfl
  · refine va_aldq (C := "ErrandLanes$Row") F.1 F.2.1 F.2.2.2.2.2.1 hP a 3 (by rw [vm_ws_at (vm_lt hs (by omega)), vm_cell_r hs (by omega) (by omega)]) rfl (vp_in_nI hj hn) dd ?_
    rw [nI_clamp (by omega), hz]
    exact kk H locs la hP hS hl
  · refine va_aldq (C := "ErrandLanes$Path") F.1 F.2.1 F.2.2.2.2.2.1 hP a 4 (by rw [vm_ws_at (vm_lt hs (by omega)), vm_cell_r hs (by omega) (by omega)]) rfl (vp_in_nI hj hn) dd ?_
    rw [nI_clamp (by omega), hz]
    exact kk H locs la hP hS hl
theorem q_gets {i : Nat} {nm : String} (hq : (i, nm) = (1000, "IS_TOO") ∨ (i, nm) = (1001, "SIZE_BODIES") ∨ (i, nm) = (1002, "MARK_BODIES")) (hw : Cond.fieldLink own idx "ErrandLanes" nm "[I" ∈ vm_wsA) (F : vm_F G C cc own nL d) (dd : decode cc pc = .ok (.getstatic idx, 3)) (kk : vm_Ex G C nL (pc + 3) ls (.ref i :: st) σ) : vm_Ex G C nL pc ls st σ := by
  intro H locs la hP hS hl
  have hZ : va_Z "ErrandLanes" nm "[I" (.ref (G.2.2.1 i)) (vm_cA C) (vm_cs C) (vm_cs C).heap := by
    obtain ⟨⟨a1, a2, a3⟩, -⟩ := F.2.2.2.2.2.2.1
    rcases hq with h | h | h <;> (cases h; assumption)
  exact va_gets F.1 F.2.1 hZ hS F.2.2.2.1 (F.2.2.2.2.1 _ hw) (fun _ h => h) dd (kk H locs la hP hS hl)
theorem q_sald {i j : Nat} {l : List Int32} (hq : (i, l) = (1000, vm_isToo) ∨ (i, l) = (1001, vm_sizeB) ∨ (i, l) = (1002, vm_markB)) (F : vm_F G C cc own nL d) (dd : decode cc pc = .ok (.iaload, 1)) (hj : j < 6) (kk : vm_Ex G C nL (pc + 1) ls (.int (l.getD j 0) :: st) σ) : vm_Ex G C nL pc ls (.int (nI j) :: .ref i :: st) σ := by
  intro H locs la hP hS hl
  have hT : va_T .int (G.2.2.1 i) 6 (fun j => .int (l.getD j 0)) (vm_cA C) (vm_cs C) (vm_cs C).heap := by
    obtain ⟨-, ⟨a1, a2, a3⟩, -⟩ := F.2.2.2.2.2.2.1
    rcases hq with h | h | h <;> (cases h; assumption)
  refine va_ti F.1 F.2.1 hT hS (vp_in_nI hj (by omega)) (v := .int (l.getD j 0)) (by rw [nI_clamp (by omega)]) dd (kk H locs la hP hS hl)
theorem vm_fix (F : vm_F G C cc own nL d) : CallFix (vm_cp C) (vm_cm C) (vm_cc C) cc nL (vm_cs C) (vm_ca C) vm_wsA own := ⟨F.1, F.2.1, F.2.2.1, F.2.2.2.1, F.2.2.2.2.1⟩
theorem vm_pre (F : vm_F G C cc own nL d) {As : List Value} {H : Heap} {locs : List Loc} (hP : va_P G.2.1 vwCl (vm_ws G σ) H) (hS : va_S (vm_cA C) (vm_cs C).heap H locs) : ∀ U : State, U.heap = H → (vm_cs C).WarmedH U.vm → vm_Pre G As σ (As.map (vm_rv G.2.2.1)).toArray U := by
  intro U hU hW
  have hA : ∀ q, vm_A G q → vm_cA C q := by
    rintro q ⟨k, hk, rfl⟩
    exact F.2.2.2.2.2.2.2.1 k hk
  exact ⟨rfl, by rw [hU]; exact hP, va_K.moved hW.alike F.2.2.2.2.2.1, F.2.2.2.2.2.2.1.move hW hS hU hA, F.2.2.2.2.2.2.2.2.1⟩
def vm_kV (own : String) (idx : Nat) (y : vm_Y) (n : Nat) : Prop := (y.1.cls ≠ "java/lang/invoke/MethodHandle" ∧ y.1.cls ≠ "java/lang/invoke/VarHandle" ∧ (parseMethodDescriptor y.1.desc).map (fun d => d.parameters.length) = some n) ∧ y.2.2.1 ≤ 21 ∧ Cond.methodLink own idx y.1 ∈ vm_wsA ∧ Cond.instanceMethod y.1 ∈ vm_wsA ∧ Cond.selects y.1.cls y.1 y.1 ∈ vm_wsA ∧ Cond.initialized y.1.cls ∈ vm_wsA ∧ Cond.code y.1 y.2.1 y.2.2.1 y.2.2.2 ∈ vm_wsA
def vm_kS (own : String) (idx : Nat) (y : vm_Y) (n : Nat) : Prop := (y.1.cls ≠ "java/lang/invoke/MethodHandle" ∧ y.1.cls ≠ "java/lang/invoke/VarHandle" ∧ (parseMethodDescriptor y.1.desc).map (fun d => d.parameters.length) = some n) ∧ y.2.2.1 ≤ 21 ∧ Cond.methodLink own idx y.1 ∈ vm_wsA ∧ Cond.static y.1 ∈ vm_wsA ∧ Cond.initialized y.1.cls ∈ vm_wsA ∧ Cond.code y.1 y.2.1 y.2.2.1 y.2.2.2 ∈ vm_wsA
theorem vm_kV_good {y : vm_Y} {n : Nat} (h : vm_kV own idx y n) : GoodIn vm_wsA (wsV own idx y.1.cls y.1 (vm_ws1 y)) := by
  obtain ⟨-, -, h1, h2, h3, h4, h5⟩ := h
  refine vm_good (fun w hw => ?_)
  simp only [wsV, vm_ws1, List.cons_append, List.nil_append, List.mem_cons] at hw
  rcases hw with rfl | rfl | rfl | rfl | rfl | hw <;> assumption
theorem vm_kS_good {y : vm_Y} {n : Nat} (h : vm_kS own idx y n) : GoodIn vm_wsA (va_wsS own idx y.1 (vm_ws1 y)) := by
  obtain ⟨-, -, h1, h2, h3, h4⟩ := h
  refine vm_good (fun w hw => ?_)
  simp only [va_wsS, vm_ws1, List.cons_append, List.nil_append, List.mem_cons] at hw
  rcases hw with rfl | rfl | rfl | rfl | hw <;> assumption
theorem vm_cats {ρ : Nat → Nat} (st : List Value) : ((st.map (vm_rv ρ)).map fun v => v.category).sum = (st.map fun v => v.category).sum := by
  rw [List.map_map]
  congr 1
  refine List.map_congr_left (fun v _ => vm_rv_cat ρ v)
theorem vm_runV (F : vm_F G C cc own nL d) {y : vm_Y} {d' : Nat} {As st0 : List Value} {Qc : Array Value → State → Outcome → State → Prop} {H : Heap} {locs : List Loc} {la : Array Slot} (hM : Met G.1 y.1 (vm_ws1 y) (vm_rm d') (vm_Pre G (.ref a :: As) σ) Qc 0 0 (vm_A G)) (hd : d' < d) (hk : vm_kV own idx y As.length) (hs : vm_sh a = (ci, N, rs)) (hc : vwCl[ci]? = some (y.1.cls, T, N)) (hci : ci < 9) (dd : decode cc pc = .ok (.invokevirtual idx, 3)) (hst : As.reverse ++ .ref a :: st = st0) (hcat : (st.map fun v => v.category).sum ≤ 8)
    (hP : va_P G.2.1 vwCl (vm_ws G σ) H) (hS : va_S (vm_cA C) (vm_cs C).heap H locs) (hl : lv_has la nL (vm_lv G.2.2.1 0 ls)) :
    va_Run (vm_cp C) G.1 (vm_ce C) (vm_cR C) (vm_cs C) (vm_cm C) (vm_ca C) (vm_cb C) (vm_cM C) (vm_cc C) H locs (vm_ck C) (vm_cn C) 0 0 (F0 (vm_cm C) pc la (st0.map (vm_rv G.2.2.1))) (st.map (vm_rv G.2.2.1)) (Qc ((.ref a :: As).map (vm_rv G.2.2.1)).toArray) (vm_A G) := by
  obtain ⟨-, -, -, -, -, -, -, -, -, f1, f2, f3, f4⟩ := id F
  have hk' := hk
  obtain ⟨k1, k2, -⟩ := hk'
  refine va_runV (C := y.1.cls) (b := G.2.2.1 a) (As := As.map (vm_rv G.2.2.1)) (n := As.length) (ret := y.2.2.2) (bytes := y.2.1) (maxL := y.2.2.1) (vm_fix F) hM (cwV As.length F.2.2.2.2.1 (vm_kV_good hk) rfl rfl rfl ⟨rfl, k1⟩ ⟨by show d' + 1 ≤ _; omega, by show 8 + (y.2.2.1 + 11) + 40 * d' ≤ _; omega⟩) ⟨vm_blind G _ σ, va_recv F.2.2.2.2.2.1 hP (ci := ci) (q0 := a) hc (by rw [vm_ws_at (vm_lt hs (by omega)), vm_cell_o hs hci]), fun U hU hW => vm_pre F (As := .ref a :: As) hP hS U hU hW⟩ rfl (by simp) hl.1 ?_ (lv_room (by rw [vm_cats]; exact hcat)) dd ⟨f3, f4⟩
  subst hst
  show List.map _ _ = _
  simp [vm_rv]
theorem vm_runS (F : vm_F G C cc own nL d) {y : vm_Y} {d' : Nat} {As st0 : List Value} {Qc : Array Value → State → Outcome → State → Prop} {H : Heap} {locs : List Loc} {la : Array Slot} (hM : Met G.1 y.1 (vm_ws1 y) (vm_rm d') (vm_Pre G As σ) Qc 0 0 (vm_A G)) (hd : d' < d) (hk : vm_kS own idx y As.length) (dd : decode cc pc = .ok (.invokestatic idx, 3)) (hst : As.reverse ++ st = st0) (hcat : (st.map fun v => v.category).sum ≤ 8)
    (hP : va_P G.2.1 vwCl (vm_ws G σ) H) (hS : va_S (vm_cA C) (vm_cs C).heap H locs) (hl : lv_has la nL (vm_lv G.2.2.1 0 ls)) :
    va_Run (vm_cp C) G.1 (vm_ce C) (vm_cR C) (vm_cs C) (vm_cm C) (vm_ca C) (vm_cb C) (vm_cM C) (vm_cc C) H locs (vm_ck C) (vm_cn C) 0 0 (F0 (vm_cm C) pc la (st0.map (vm_rv G.2.2.1))) (st.map (vm_rv G.2.2.1)) (Qc (As.map (vm_rv G.2.2.1)).toArray) (vm_A G) := by
  obtain ⟨-, -, -, -, -, -, -, -, -, f1, f2, f3, f4⟩ := id F
  have hk' := hk
  obtain ⟨k1, k2, -⟩ := hk'
  refine va_runS (As := As.map (vm_rv G.2.2.1)) (n := As.length) (ret := y.2.2.2) (bytes := y.2.1) (maxL := y.2.2.1) (vm_fix F) hM (va_cwS As.length F.2.2.2.2.1 (vm_kS_good hk) rfl rfl rfl k1 ⟨by show d' + 1 ≤ _; omega, by show 8 + (y.2.2.1 + 11) + 40 * d' ≤ _; omega⟩) ⟨vm_blind G _ σ, fun U hU hW => vm_pre F (As := As) hP hS U hU hW⟩ rfl (by simp) hl.1 ?_ (lv_room (by rw [vm_cats]; exact hcat)) dd ⟨f3, f4⟩
  subst hst
  show List.map _ _ = _
  simp
theorem vm_AA (F : vm_F G C cc own nL d) : ∀ q, vm_A G q → vm_cA C q := by
  rintro q ⟨k, hk, rfl⟩
  exact F.2.2.2.2.2.2.2.1 k hk
theorem q_vi {y : vm_Y} {d' : Nat} {As st0 : List Value} {post : Int32 → vm_M → Prop} (hk : vm_kV own idx y As.length) (hc : vwCl[ci]? = some (y.1.cls, T, N)) (hci : ci < 9) (F : vm_F G C cc own nL d) (dd : decode cc pc = .ok (.invokevirtual idx, 3)) (hM : vm_RI G d' y (.ref a :: As) σ post) (hd : d' < d) (hs : vm_sh a = (ci, N, rs)) (hst : As.reverse ++ .ref a :: st = st0) (hcat : (st.map fun v => v.category).sum ≤ 8)
    (kk : ∀ v σ', post v σ' → vm_Ex G C nL (pc + 3) ls (.int v :: st) σ') : vm_Ex G C nL pc ls st0 σ := by
  intro H locs la hP hS hl
  exact va_calli (vm_runV F hM hd hk hs hc hci dd hst hcat hP hS hl) hS (fun q _ h => vm_AA F q h) (vm_AA F) (fun r u t H1 locs1 ht hvm hw hB hz hk1 hS1 => kk r u hw H1 locs1 la (by rw [← ht]; exact hB.1) hS1 hl)
theorem q_vv {y : vm_Y} {d' : Nat} {As st0 : List Value} {post : vm_M → Prop} (hk : vm_kV own idx y As.length) (hc : vwCl[ci]? = some (y.1.cls, T, N)) (hci : ci < 9) (F : vm_F G C cc own nL d) (dd : decode cc pc = .ok (.invokevirtual idx, 3)) (hM : vm_RV G d' y (.ref a :: As) σ post) (hd : d' < d) (hs : vm_sh a = (ci, N, rs)) (hst : As.reverse ++ .ref a :: st = st0) (hcat : (st.map fun v => v.category).sum ≤ 8)
    (kk : ∀ σ', post σ' → vm_Ex G C nL (pc + 3) ls st σ') : vm_Ex G C nL pc ls st0 σ := by
  intro H locs la hP hS hl
  exact va_callv (vm_runV F hM hd hk hs hc hci dd hst hcat hP hS hl) hS (fun q _ h => vm_AA F q h) (vm_AA F) (fun u t H1 locs1 ht hvm hw hB hz hk1 hS1 => kk u hw H1 locs1 la (by rw [← ht]; exact hB.1) hS1 hl)
theorem q_si {y : vm_Y} {d' : Nat} {As st0 : List Value} {post : Int32 → vm_M → Prop} (hk : vm_kS own idx y As.length) (F : vm_F G C cc own nL d) (dd : decode cc pc = .ok (.invokestatic idx, 3)) (hM : vm_RI G d' y As σ post) (hd : d' < d) (hst : As.reverse ++ st = st0) (hcat : (st.map fun v => v.category).sum ≤ 8)
    (kk : ∀ v σ', post v σ' → vm_Ex G C nL (pc + 3) ls (.int v :: st) σ') : vm_Ex G C nL pc ls st0 σ := by
  intro H locs la hP hS hl
  exact va_calli (vm_runS F hM hd hk dd hst hcat hP hS hl) hS (fun q _ h => vm_AA F q h) (vm_AA F) (fun r u t H1 locs1 ht hvm hw hB hz hk1 hS1 => kk r u hw H1 locs1 la (by rw [← ht]; exact hB.1) hS1 hl)
theorem q_min {x y : Int32} (hw1 : Cond.methodLink own idx Lib.Math.min.name ∈ vm_wsA) (hw2 : Cond.static Lib.Math.min.name ∈ vm_wsA) (hw3 : Cond.initialized "java/lang/Math" ∈ vm_wsA) (hw4 : Cond.code Lib.Math.min.name Lib.Math.min.code 2 (some .int) ∈ vm_wsA) (F : vm_F G C cc own nL d) (hd : 0 < d) (dd : decode cc pc = .ok (.invokestatic idx, 3)) (hcat : (st.map fun v => v.category).sum ≤ 8)
    (kk : vm_Ex G C nL (pc + 3) ls (.int (if y < x then y else x) :: st) σ) : vm_Ex G C nL pc ls (.int y :: .int x :: st) σ := by
  intro H locs la hP hS hl
  obtain ⟨-, -, -, -, -, -, -, -, -, f1, f2, f3, f4⟩ := id F
  exact va_mmin F.1 F.2.1 (by rw [F.2.2.1, hl.1]) F.2.2.2.1 (F.2.2.2.2.1 _ hw1) (F.2.2.2.2.1 _ hw2) (F.2.2.2.2.1 _ hw3) (F.2.2.2.2.1 _ hw4) (by omega) (by rw [vm_cats]; omega) f3 f4 dd (kk H locs la hP hS hl)
/-- System.arraycopy of ints -/
theorem q_copy {a0 n0 n1 i j n : Nat} {rs0 : List (Option Nat)} (hw1 : Cond.methodLink own idx arraycopyName ∈ vm_wsA) (hw2 : Cond.native arraycopyName ∈ vm_wsA) (hw3 : Cond.static arraycopyName ∈ vm_wsA) (hw4 : Cond.initialized "java/lang/System" ∈ vm_wsA) (F : vm_F G C cc own nL d) (hd : 0 < d) (dd : decode cc pc = .ok (.invokestatic idx, 3)) (hcat : (st.map fun v => v.category).sum ≤ 8) (hs0 : vm_sh a0 = (9, n0, rs0)) (hs : vm_sh a = (9, n1, rs)) (h0 : i + n ≤ n0) (h1 : j + n ≤ n1) (hn0 : n0 < 2 ^ 31) (hn1 : n1 < 2 ^ 31)
    (kk : vm_Ex G C nL (pc + 3) ls st (fun o => if o = a then va_cpy (σ a0) (σ a) i j n else σ o)) : vm_Ex G C nL pc ls (.int (nI n) :: .int (nI j) :: .ref a :: .int (nI i) :: .ref a0 :: st) σ := by
  intro H locs la hP hS hl
  obtain ⟨-, -, -, -, -, -, -, -, -, f1, f2, f3, f4⟩ := id F
  have hlt := vm_lt hs (by omega)
  have hnw : nativeFrameWords "java/lang/System" "arraycopy" 5 + 11 ≤ 30 := by decide +kernel
  refine va_copyi (sp := nI i) (dp := nI j) (n := nI n) (ty := .int) F.1 F.2.1 (by rw [F.2.2.1, hl.1]) F.2.2.2.1 (F.2.2.2.2.1 _ hw1) (F.2.2.2.2.1 _ hw2) (F.2.2.2.2.1 _ hw3) (F.2.2.2.2.1 _ hw4) F.2.2.2.2.2.1 hP (vm_D F.2.2.2.2.2.2.2.2.1 F.2.2.2.2.2.2.2.1) hS a0 a 0 0 (by rw [vm_ws_at (vm_lt hs0 (by omega)), vm_cell_i hs0 (by omega) (by omega)]) (by rw [vm_ws_at hlt, vm_cell_i hs (by omega) (by omega)]) rfl rfl rfl (nI_pos (by omega)) (nI_pos (by omega)) (nI_pos (by omega)) (by rw [nI_clamp (by omega), nI_clamp (by omega)]; exact h0) (by rw [nI_clamp (by omega), nI_clamp (by omega)]; exact h1) (fun _ _ => rfl) (by omega) (by rw [vm_cats]; omega) dd (fun H1 locs1 hP1 hD1 hS1 => ?_)
  rw [nI_clamp (by omega), nI_clamp (by omega), nI_clamp (by omega)] at hP1
  refine kk H1 locs1 la ?_ hS1 hl
  have e : vm_ws G (fun o => if o = a then va_cpy (σ a0) (σ a) i j n else σ o) = (vm_ws G σ).set a (G.2.2.1 a, .inl (G.2.2.2 9, n1, .inl (va_cpy (σ a0) (σ a) i j n))) := by
    refine List.ext_getElem? (fun k => ?_)
    by_cases hk : k < vm_N
    · rw [vm_ws_at hk]
      by_cases e : k = a
      · subst e
        rw [List.getElem?_set_self (by simpa [vm_ws] using hk), vm_cell_i hs (by omega) (by omega), if_pos rfl]
      · rw [List.getElem?_set_ne (Ne.symm e), vm_ws_at hk]
        have e2 : vm_slot G.2.2.1 (fun o => if o = a then va_cpy (σ a0) (σ a) i j n else σ o) k = vm_slot G.2.2.1 σ k := by funext i; simp only [vm_slot, if_neg e]
        have e3 : (fun o => if o = a then va_cpy (σ a0) (σ a) i j n else σ o) k = σ k := if_neg e
        unfold vm_cell
        rw [e2, e3]
    · rw [List.getElem?_eq_none (by simp [vm_ws]; omega), List.getElem?_eq_none (by simp [vm_ws]; omega)]
  rw [e]
  exact hP1
end
