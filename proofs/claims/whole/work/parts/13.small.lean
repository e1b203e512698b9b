set_option maxHeartbeats 4000000 in
set_option maxRecDepth 100000 in
theorem c_fclear {G : vm_G} {σ : vm_M} : vm_RV G 0 mX0_clear [.ref 173] σ (fun σ' => σ' = vm_upd (vm_upd σ 173 0 (nI 0)) 173 1 (-1000000)) := by
  refine vm_void (y := mX0_clear) (by decide) (Nat.le_of_ble_eq_true rfl) (ls0 := [some (.ref 173)]) rfl rfl (fun C F K => ?_)
  have F : vm_F G C cX0_clear RX0 1 _ := F
  show vm_Ex G C 1 0 [some (.ref 173)] [] _
  refine q_aload_n F 0 dX0_clear_0 rfl rfl ?_
  refine q_iconst F (nI 0) dX0_clear_1 (by decide) ?_
  refine pX0_9 F dX0_clear_2 sh_173 rfl ⟨rfl, rfl⟩ ?_
  refine q_aload_n F 0 dX0_clear_5 rfl rfl ?_
  refine q_ldc F dX0_clear_6 wX0_15 ?_
  refine pX0_16 F dX0_clear_8 sh_173 rfl ⟨rfl, rfl⟩ ?_
  exact K _ _ _ (rfl) dX0_clear_11
set_option maxHeartbeats 4000000 in
set_option maxRecDepth 100000 in
theorem c_fadd {G : vm_G} {σ : vm_M} {m : Nat} (hm : m < 2 ^ 31) (h : σ 173 0 = nI m) (x : Int32) : vm_RV G 0 mX0_add [.ref 173, .int x] σ (fun σ' => σ' 173 0 = nI (m + 1) ∧ σ' 173 1 = (if m = 0 then x else σ 173 1) ∧ ∀ o, o ≠ 173 → σ' o = σ o) := by
  refine vm_void (y := mX0_add) (by decide) (Nat.le_of_ble_eq_true rfl) (ls0 := [some (.ref 173), some (.int x)]) rfl rfl (fun C F K => ?_)
  have F : vm_F G C cX0_add RX0 2 _ := F
  show vm_Ex G C 2 0 [some (.ref 173), some (.int x)] [] _
  refine q_aload_n F 0 dX0_add_0 rfl rfl ?_
  refine gX0_9 F dX0_add_1 sh_173 rfl ?_
  refine q_top (.int (nI m)) (congrArg Value.int (h)) ?_
  refine z_ne F 12 dX0_add_4 (by decide) (by omega) (fun c_4 => ?_) (fun c_4 => ?_)
  · refine q_aload_n F 0 dX0_add_12 rfl rfl ?_
    refine q_dup F dX0_add_13 rfl ?_
    refine gX0_9 F dX0_add_14 sh_173 rfl ?_
    refine q_top (.int (nI m)) (congrArg Value.int (by simp [vm_upd, upd, h])) ?_
    refine q_iconst F (nI 1) dX0_add_17 (by decide) ?_
    refine n_iadd F dX0_add_18 ?_
    refine pX0_9 F dX0_add_19 sh_173 rfl ⟨rfl, rfl⟩ ?_
    refine K _ _ _ ?_ dX0_add_22
    refine ⟨by simp [vm_upd, upd], by simp [vm_upd, upd, c_4], fun o ho => by simp [vm_upd, ho]⟩
  · refine q_aload_n F 0 dX0_add_7 rfl rfl ?_
    refine q_iload_n F 1 dX0_add_8 rfl rfl ?_
    refine pX0_16 F dX0_add_9 sh_173 rfl ⟨rfl, rfl⟩ ?_
    refine q_aload_n F 0 dX0_add_12 rfl rfl ?_
    refine q_dup F dX0_add_13 rfl ?_
    refine gX0_9 F dX0_add_14 sh_173 rfl ?_
    refine q_top (.int (nI m)) (congrArg Value.int (by simp [vm_upd, upd, h])) ?_
    refine q_iconst F (nI 1) dX0_add_17 (by decide) ?_
    refine n_iadd F dX0_add_18 ?_
    refine pX0_9 F dX0_add_19 sh_173 rfl ⟨rfl, rfl⟩ ?_
    refine K _ _ _ ?_ dX0_add_22
    refine ⟨by simp [vm_upd, upd], by simp [vm_upd, upd, c_4], fun o ho => by simp [vm_upd, ho]⟩
set_option maxHeartbeats 4000000 in
set_option maxRecDepth 100000 in
theorem c_ftell {G : vm_G} {σ : vm_M} (w : Int32) : vm_RI G 0 mX0_tell [.ref 173, .int w] σ (fun r σ' => r = (if w = 0 then σ 173 0 else σ 173 1) ∧ σ' = σ) := by
  refine vm_int (y := mX0_tell) (by decide) (Nat.le_of_ble_eq_true rfl) (ls0 := [some (.ref 173), some (.int w)]) rfl rfl (fun C F K => ?_)
  have F : vm_F G C cX0_tell RX0 2 _ := F
  show vm_Ex G C 2 0 [some (.ref 173), some (.int w)] [] _
  refine q_iload_n F 1 dX0_tell_0 rfl rfl ?_
  refine q_if_ne F 11 dX0_tell_1 (by decide) (fun c_1 => ?_) (fun c_1 => ?_)
  · refine q_aload_n F 0 dX0_tell_11 rfl rfl ?_
    refine gX0_16 F dX0_tell_12 sh_173 rfl ?_
    refine K _ _ _ _ ?_ dX0_tell_15 rfl
    refine ⟨by simp [c_1], rfl⟩
  · refine q_aload_n F 0 dX0_tell_4 rfl rfl ?_
    refine gX0_9 F dX0_tell_5 sh_173 rfl ?_
    refine q_goto F 15 dX0_tell_8 (by decide) ?_
    refine K _ _ _ _ ?_ dX0_tell_15 rfl
    refine ⟨by simp [c_1], rfl⟩
set_option maxHeartbeats 4000000 in
set_option maxRecDepth 100000 in
theorem c_append {G : vm_G} {σ : vm_M} {tl x : Nat} (h : σ 3 1 = nI tl) (ht : tl < 400) (hx : x < 256) : vm_RV G 0 mX5_append [.ref 3, .int (nI x)] σ (fun σ' => σ' = vm_upd (vm_upd σ 4 tl (nI x)) 3 1 (nI (tl + 1))) := by
  refine vm_void (y := mX5_append) (by decide) (Nat.le_of_ble_eq_true rfl) (ls0 := [some (.ref 3), some (.int (nI x))]) rfl rfl (fun C F K => ?_)
  have F : vm_F G C cX5_append RX5 2 _ := F
  show vm_Ex G C 2 0 [some (.ref 3), some (.int (nI x))] [] _
  refine q_aload_n F 0 dX5_append_0 rfl rfl ?_
  refine gX5_15 F dX5_append_1 sh_3 rfl ?_
  refine q_top (.int (nI tl)) (congrArg Value.int (h)) ?_
  refine q_sipush F (nI 400) dX5_append_4 (by decide) ?_
  refine n_ge F 30 dX5_append_7 (by decide) (by omega) (by omega) (fun c_7 => ?_) (fun c_7 => ?_)
  · omega
  · refine q_aload_n F 0 dX5_append_10 rfl rfl ?_
    refine gX5_9 F dX5_append_11 sh_3 rfl ?_
    refine q_aload_n F 0 dX5_append_14 rfl rfl ?_
    refine gX5_15 F dX5_append_15 sh_3 rfl ?_
    refine q_top (.int (nI tl)) (congrArg Value.int (h)) ?_
    refine q_iload_n F 1 dX5_append_18 rfl rfl ?_
    refine q_cast F dX5_append_19 sh_4 ht (by decide) (vp_char_N (by omega)) ?_
    refine q_aload_n F 0 dX5_append_20 rfl rfl ?_
    refine q_dup F dX5_append_21 rfl ?_
    refine gX5_15 F dX5_append_22 sh_3 rfl ?_
    refine q_top (.int (nI tl)) (congrArg Value.int (by simp [vm_upd, h])) ?_
    refine q_iconst F (nI 1) dX5_append_25 (by decide) ?_
    refine n_iadd F dX5_append_26 ?_
    refine pX5_15 F dX5_append_27 sh_3 rfl ⟨rfl, rfl⟩ ?_
    exact K _ _ _ (rfl) dX5_append_30
set_option maxHeartbeats 4000000 in
set_option maxRecDepth 100000 in
theorem c_leave {G : vm_G} {σ : vm_M} {tn : Nat} {tr : Nat → Int32} (h : cTr σ tn tr) (x : Int32) : vm_RV G 0 mX6_leave [.ref 171, .int x] σ (fun σ' => cTr σ' (sLv x (tn, tr)).1 (sLv x (tn, tr)).2 ∧ ∀ o, o ≠ 171 → o ≠ 172 → σ' o = σ o) := by
  refine vm_void (y := mX6_leave) (by decide) (Nat.le_of_ble_eq_true rfl) (ls0 := [some (.ref 171), some (.int x)]) rfl rfl (fun C F K => ?_)
  have F : vm_F G C cX6_leave RX6 2 _ := F
  show vm_Ex G C 2 0 [some (.ref 171), some (.int x)] [] _
  have h0 := h.1
  have h1 := h.2.1
  refine q_aload_n F 0 dX6_leave_0 rfl rfl ?_
  refine gX6_15 F dX6_leave_1 sh_171 rfl ?_
  refine q_top (.int (nI tn)) (congrArg Value.int (h.1)) ?_
  refine q_bipush F (nI 16) dX6_leave_4 (by decide) ?_
  refine n_ge F 29 dX6_leave_6 (by decide) (by omega) (by omega) (fun c_6 => ?_) (fun c_6 => ?_)
  · exact K _ _ _ ⟨by simp only [sLv, show ¬ tn < 16 by omega, if_false]; exact h, fun _ _ _ => rfl⟩ dX6_leave_29
  · refine q_aload_n F 0 dX6_leave_9 rfl rfl ?_
    refine gX6_9 F dX6_leave_10 sh_171 rfl ?_
    refine q_aload_n F 0 dX6_leave_13 rfl rfl ?_
    refine gX6_15 F dX6_leave_14 sh_171 rfl ?_
    refine q_top (.int (nI tn)) (congrArg Value.int (h.1)) ?_
    refine q_iload_n F 1 dX6_leave_17 rfl rfl ?_
    refine q_iast F dX6_leave_18 sh_172 (by omega) (by decide) ?_
    refine q_aload_n F 0 dX6_leave_19 rfl rfl ?_
    refine q_dup F dX6_leave_20 rfl ?_
    refine gX6_15 F dX6_leave_21 sh_171 rfl ?_
    refine q_top (.int (nI tn)) (congrArg Value.int (by simp [vm_upd, h0])) ?_
    refine q_iconst F (nI 1) dX6_leave_24 (by decide) ?_
    refine n_iadd F dX6_leave_25 ?_
    refine pX6_15 F dX6_leave_26 sh_171 rfl ⟨rfl, rfl⟩ ?_
    refine K _ _ _ ?_ dX6_leave_29
    refine ⟨?_, fun o ho1 ho2 => by simp [vm_upd, ho1, ho2]⟩
    simp only [sLv, c_6, if_true]
    refine ⟨by simp [vm_upd, upd], by omega, fun i hi => ?_⟩
    by_cases e : i = tn
    · subst e; simp [vm_upd, upd, vm_u]
    · simp [vm_upd, upd, vm_u, e]; exact h.2.2 i (by omega)
set_option maxHeartbeats 4000000 in
set_option maxRecDepth 100000 in
theorem c_pclear {G : vm_G} {σ : vm_M} : vm_RV G 0 mX1_clear [.ref 25] σ (fun σ' => σ' = vm_upd (vm_upd σ 25 1 (nI 0)) 25 2 (nI 0)) := by
  refine vm_void (y := mX1_clear) (by decide) (Nat.le_of_ble_eq_true rfl) (ls0 := [some (.ref 25)]) rfl rfl (fun C F K => ?_)
  have F : vm_F G C cX1_clear RX1 1 _ := F
  show vm_Ex G C 1 0 [some (.ref 25)] [] _
  refine q_aload_n F 0 dX1_clear_0 rfl rfl ?_
  refine q_iconst F (nI 0) dX1_clear_1 (by decide) ?_
  refine pX1_17 F dX1_clear_2 sh_25 rfl ⟨rfl, rfl⟩ ?_
  refine q_aload_n F 0 dX1_clear_5 rfl rfl ?_
  refine q_iconst F (nI 0) dX1_clear_6 (by decide) ?_
  refine pX1_21 F dX1_clear_7 sh_25 rfl ⟨rfl, rfl⟩ ?_
  exact K _ _ _ (rfl) dX1_clear_10
theorem min_l : Cond.methodLink RX1 29 Lib.Math.min.name ∈ vm_wsA := vm_mem 483 (by decide +kernel) (by decide +kernel)
theorem min_s : Cond.static Lib.Math.min.name ∈ vm_wsA := vm_mem 484 (by decide +kernel) (by decide +kernel)
theorem min_i : Cond.initialized "java/lang/Math" ∈ vm_wsA := vm_mem 62 (by decide +kernel) (by decide +kernel)
theorem min_c : Cond.code Lib.Math.min.name Lib.Math.min.code 2 (some .int) ∈ vm_wsA := vm_mem 485 (by decide +kernel) (by decide +kernel)
theorem min_nI {a b : Nat} (ha : a < 2 ^ 31) (hb : b < 2 ^ 31) : (if nI b < nI a then nI b else nI a) = nI (min a b) := by
  by_cases h : b < a
  · rw [if_pos (nI_lt h ha), Nat.min_eq_right (by omega)]
  · rw [if_neg (nI_nlt (by omega) hb), Nat.min_eq_left (by omega)]
set_option maxHeartbeats 4000000 in
set_option maxRecDepth 100000 in
theorem c_keep {G : vm_G} {σ : vm_M} {nx pl : Nat} {v : vm_V} (h1 : σ 25 1 = nI nx) (hnx : nx < 24) (h2 : σ 25 2 = nI pl) (hpl : pl ≤ 24) (hv : isP σ 5 v) : vm_RV G 1 mX1_keep [.ref 25, .ref 5] σ (fun σ' => σ' = vm_upd (vm_upd (vm_P σ (27 + 6 * nx) v) 25 1 (nI ((nx + 1) % 24))) 25 2 (nI (min (pl + 1) 24))) := by
  refine vm_void (y := mX1_keep) (by decide) (Nat.le_of_ble_eq_true rfl) (ls0 := [some (.ref 25), some (.ref 5)]) rfl rfl (fun C F K => ?_)
  have F : vm_F G C cX1_keep RX1 2 _ := F
  show vm_Ex G C 2 0 [some (.ref 25), some (.ref 5)] [] _
  refine q_aload_n F 0 dX1_keep_0 rfl rfl ?_
  refine gX1_11 F dX1_keep_1 sh_25 rfl ?_
  refine q_aload_n F 0 dX1_keep_4 rfl rfl ?_
  refine gX1_17 F dX1_keep_5 sh_25 rfl ?_
  refine q_top (.int (nI nx)) (congrArg Value.int (h1)) ?_
  refine q_aald (r := 27 + 6 * nx) F dX1_keep_8 sh_26 (by decide) hnx (by decide) (by simp [hnx]) ?_
  refine q_aload_n F 1 dX1_keep_9 rfl rfl ?_
  refine iX1_25 F dX1_keep_10 (c_become (pathB _ hnx) path5 (by omega) hv) (by decide) (pathB _ hnx).1 rfl rfl (Nat.le_of_ble_eq_true rfl) (fun σ_10 h_10 => ?_)
  subst h_10
  refine q_aload_n F 0 dX1_keep_13 rfl rfl ?_
  refine q_aload_n F 0 dX1_keep_14 rfl rfl ?_
  refine gX1_17 F dX1_keep_15 sh_25 rfl ?_
  refine q_top (.int (nI nx)) (congrArg Value.int (by rw [vm_P_out (by omega)]; exact h1)) ?_
  refine q_iconst F (nI 1) dX1_keep_18 (by decide) ?_
  refine n_iadd F dX1_keep_19 ?_
  refine q_bipush F (nI 24) dX1_keep_20 (by decide) ?_
  refine q_irem F dX1_keep_22 (by decide) rfl ?_
  refine q_top (.int (nI ((nx + 1) % 24))) (congrArg Value.int (pk_rem (by omega) (by decide) (by decide))) ?_
  refine pX1_17 F dX1_keep_23 sh_25 rfl ⟨rfl, rfl⟩ ?_
  refine q_aload_n F 0 dX1_keep_26 rfl rfl ?_
  refine q_aload_n F 0 dX1_keep_27 rfl rfl ?_
  refine gX1_21 F dX1_keep_28 sh_25 rfl ?_
  refine q_top (.int (nI pl)) (congrArg Value.int (by rw [vm_upd_a]; simp only [upd]; rw [if_neg (by decide), vm_P_out (by omega)]; exact h2)) ?_
  refine q_iconst F (nI 1) dX1_keep_31 (by decide) ?_
  refine n_iadd F dX1_keep_32 ?_
  refine q_bipush F (nI 24) dX1_keep_33 (by decide) ?_
  refine q_min min_l min_s min_i min_c F (by decide) dX1_keep_35 (Nat.le_of_ble_eq_true rfl) ?_
  refine q_top (.int (nI (min (pl + 1) 24))) (congrArg Value.int (min_nI (by omega) (by decide))) ?_
  refine pX1_21 F dX1_keep_38 sh_25 rfl ⟨rfl, rfl⟩ ?_
  exact K _ _ _ (rfl) dX1_keep_41
set_option maxHeartbeats 4000000 in
set_option maxRecDepth 100000 in
theorem c_giveBack {G : vm_G} {σ : vm_M} {nx pl : Nat} {v : vm_V} (h1 : σ 25 1 = nI nx) (hnx : nx < 24) (h2 : σ 25 2 = nI pl) (hp0 : 0 < pl) (hpl : pl ≤ 24) (hv : isP σ (27 + 6 * ((nx + 23) % 24)) v) : vm_RV G 1 mX1_giveBack [.ref 25, .ref 5] σ (fun σ' => σ' = vm_P (vm_upd (vm_upd σ 25 1 (nI ((nx + 23) % 24))) 25 2 (nI (pl - 1))) 5 v) := by
  refine vm_void (y := mX1_giveBack) (by decide) (Nat.le_of_ble_eq_true rfl) (ls0 := [some (.ref 25), some (.ref 5)]) rfl rfl (fun C F K => ?_)
  have F : vm_F G C cX1_giveBack RX1 2 _ := F
  show vm_Ex G C 2 0 [some (.ref 25), some (.ref 5)] [] _
  have hy : (nx + 23) % 24 < 24 := Nat.mod_lt _ (by decide)
  have hv2 : isP (vm_upd (vm_upd σ 25 1 (nI ((nx + 23) % 24))) 25 2 (nI (pl - 1))) (27 + 6 * ((nx + 23) % 24)) v := hv.fr (fun o ho1 ho2 => by rw [vm_upd_n _ _ _ (by omega), vm_upd_n _ _ _ (by omega)])
  refine q_aload_n F 0 dX1_giveBack_0 rfl rfl ?_
  refine q_aload_n F 0 dX1_giveBack_1 rfl rfl ?_
  refine gX1_17 F dX1_giveBack_2 sh_25 rfl ?_
  refine q_top (.int (nI nx)) (congrArg Value.int (h1)) ?_
  refine q_bipush F (nI 24) dX1_giveBack_5 (by decide) ?_
  refine n_iadd F dX1_giveBack_7 ?_
  refine q_iconst F (nI 1) dX1_giveBack_8 (by decide) ?_
  refine n_isub F dX1_giveBack_9 (by omega) ?_
  refine q_bipush F (nI 24) dX1_giveBack_10 (by decide) ?_
  refine q_irem F dX1_giveBack_12 (by decide) rfl ?_
  refine q_top (.int (nI ((nx + 23) % 24))) (congrArg Value.int (pk_rem (by omega) (by decide) (by decide))) ?_
  refine pX1_17 F dX1_giveBack_13 sh_25 rfl ⟨rfl, rfl⟩ ?_
  refine q_aload_n F 0 dX1_giveBack_16 rfl rfl ?_
  refine q_dup F dX1_giveBack_17 rfl ?_
  refine gX1_21 F dX1_giveBack_18 sh_25 rfl ?_
  refine q_top (.int (nI pl)) (congrArg Value.int (by simp [vm_upd, upd, h2])) ?_
  refine q_iconst F (nI 1) dX1_giveBack_21 (by decide) ?_
  refine n_isub F dX1_giveBack_22 (by omega) ?_
  refine pX1_21 F dX1_giveBack_23 sh_25 rfl ⟨rfl, rfl⟩ ?_
  refine q_aload_n F 1 dX1_giveBack_26 rfl rfl ?_
  refine q_aload_n F 0 dX1_giveBack_27 rfl rfl ?_
  refine gX1_11 F dX1_giveBack_28 sh_25 rfl ?_
  refine q_aload_n F 0 dX1_giveBack_31 rfl rfl ?_
  refine gX1_17 F dX1_giveBack_32 sh_25 rfl ?_
  refine q_top (.int (nI ((nx + 23) % 24))) (congrArg Value.int (by simp [vm_upd, upd])) ?_
  refine q_aald (r := 27 + 6 * ((nx + 23) % 24)) F dX1_giveBack_35 sh_26 (by decide) hy (by decide) (by simp [hy]) ?_
  refine iX1_25 F dX1_giveBack_36 (c_become path5 (pathB _ hy) (by omega) hv2) (by decide) path5.1 rfl rfl (Nat.le_of_ble_eq_true rfl) (fun σ_36 h_36 => ?_)
  subst h_36
  exact K _ _ _ (rfl) dX1_giveBack_39
set_option maxHeartbeats 4000000 in
set_option maxRecDepth 100000 in
theorem c_rbegin {G : vm_G} {σ : vm_M} {r : Nat} (hr : vm_sh r = (4, 4, [some (r + 1)]) ∧ vm_sh (r + 1) = (9, 40, [])) (x y : Int32) : vm_RV G 0 mX4_begin [.ref r, .int x, .int y] σ (fun σ' => σ' r 1 = nI 1 ∧ σ' r 2 = x ∧ σ' r 3 = y ∧ (∀ k, k < 40 → σ' (r + 1) k = nI 0) ∧ ∀ o, o ≠ r → o ≠ r + 1 → σ' o = σ o) := by
  refine vm_void (y := mX4_begin) (by decide) (Nat.le_of_ble_eq_true rfl) (ls0 := [some (.ref r), some (.int x), some (.int y), none]) rfl rfl (fun C F K => ?_)
  have F : vm_F G C cX4_begin RX4 4 _ := F
  show vm_Ex G C 4 0 [some (.ref r), some (.int x), some (.int y), none] [] _
  have L : ∀ k i, ∀ σ2 : vm_M, σ2 r 1 = nI 1 → σ2 r 2 = x → σ2 r 3 = y → (∀ k, k < i → σ2 (r + 1) k = nI 0) → (∀ o, o ≠ r → o ≠ r + 1 → σ2 o = σ o) → i + k = 40 → vm_Ex G C 4 17 [some (.ref r), some (.int x), some (.int y), some (.int (nI i))] [] σ2 := by
    intro k
    induction k with
    | zero =>
      intro i σ2 e1 e2 e3 e4 e5 hi
      refine q_iload_n F 3 dX4_begin_17 rfl rfl ?_
      refine q_bipush F (nI 40) dX4_begin_18 (by decide) ?_
      refine n_ge F 36 dX4_begin_20 (by decide) (by omega) (by omega) (fun c_20 => ?_) (fun c_20 => ?_)
      · exact K _ _ _ (⟨e1, e2, e3, fun k hk => e4 k (by omega), e5⟩) dX4_begin_36
      · omega
    | succ k ih =>
      intro i σ2 e1 e2 e3 e4 e5 hi
      refine q_iload_n F 3 dX4_begin_17 rfl rfl ?_
      refine q_bipush F (nI 40) dX4_begin_18 (by decide) ?_
      refine n_ge F 36 dX4_begin_20 (by decide) (by omega) (by omega) (fun c_20 => ?_) (fun c_20 => ?_)
      · omega
      · refine q_aload_n F 0 dX4_begin_23 rfl rfl ?_
        refine gX4_9 F dX4_begin_24 hr.1 rfl ?_
        refine q_iload_n F 3 dX4_begin_27 rfl rfl ?_
        refine q_iconst F (nI 0) dX4_begin_28 (by decide) ?_
        refine q_iast F dX4_begin_29 hr.2 (by omega) (by decide) ?_
        refine q_iinc3 F _ dX4_begin_30 (nI_inc _) (by decide) rfl ?_
        refine q_goto F 17 dX4_begin_33 (by decide) ?_
        exact ih (i + 1) _ (by simp [vm_upd, e1]) (by simp [vm_upd, e2]) (by simp [vm_upd, e3]) (fun q hq => by
          by_cases e : q = i
          · subst e; simp [vm_upd, upd]
          · simp [vm_upd, upd, e]; exact e4 q (by omega)) (fun o h1 h2 => by simp [vm_upd, h2]; exact e5 o h1 h2) (by omega)
  refine q_aload_n F 0 dX4_begin_0 rfl rfl ?_
  refine q_iconst F (nI 1) dX4_begin_1 (by decide) ?_
  refine pX4_15 F dX4_begin_2 hr.1 rfl ⟨rfl, rfl⟩ ?_
  refine q_aload_n F 0 dX4_begin_5 rfl rfl ?_
  refine q_iload_n F 1 dX4_begin_6 rfl rfl ?_
  refine pX4_19 F dX4_begin_7 hr.1 rfl ⟨rfl, rfl⟩ ?_
  refine q_aload_n F 0 dX4_begin_10 rfl rfl ?_
  refine q_iload_n F 2 dX4_begin_11 rfl rfl ?_
  refine pX4_23 F dX4_begin_12 hr.1 rfl ⟨rfl, rfl⟩ ?_
  refine q_iconst F (nI 0) dX4_begin_15 (by decide) ?_
  refine q_istore_n3 F dX4_begin_16 (by decide) rfl ?_
  exact L 40 0 _ (by simp [vm_upd, upd]) (by simp [vm_upd, upd]) (by simp [vm_upd, upd]) (fun k hk => absurd hk (Nat.not_lt_zero _)) (fun o h1 h2 => by simp [vm_upd, h1]) (by omega)
set_option maxHeartbeats 4000000 in
set_option maxRecDepth 100000 in
theorem c_narrowed {G : vm_G} {σ : vm_M} {r : Nat} (hr : vm_sh r = (4, 4, [some (r + 1)]) ∧ vm_sh (r + 1) = (9, 40, [])) {l : Nat} (hl : σ r 2 = nI l) (h3 : l < 3) (x : Int32) : vm_RI G 0 mX4_narrowed [.ref r, .int x] σ (fun a σ' => a = sNar (l + 1) x ∧ σ' = σ) := by
  refine vm_int (y := mX4_narrowed) (by decide) (Nat.le_of_ble_eq_true rfl) (ls0 := [some (.ref r), some (.int x)]) rfl rfl (fun C F K => ?_)
  have F : vm_F G C cX4_narrowed RX4 2 _ := F
  show vm_Ex G C 2 0 [some (.ref r), some (.int x)] [] _
  refine q_aload_n F 0 dX4_narrowed_0 rfl rfl ?_
  refine gX4_19 F dX4_narrowed_1 hr.1 rfl ?_
  refine q_top (.int (nI l)) (congrArg Value.int (hl)) ?_
  refine z_ne F 10 dX4_narrowed_4 (by decide) (by omega) (fun c_4 => ?_) (fun c_4 => ?_)
  · refine q_aload_n F 0 dX4_narrowed_10 rfl rfl ?_
    refine gX4_19 F dX4_narrowed_11 hr.1 rfl ?_
    refine q_top (.int (nI l)) (congrArg Value.int (hl)) ?_
    refine q_iconst F (nI 1) dX4_narrowed_14 (by decide) ?_
    refine n_ne F 23 dX4_narrowed_15 (by decide) (by omega) (by omega) (fun c_15 => ?_) (fun c_15 => ?_)
    · refine q_iload_n F 1 dX4_narrowed_23 rfl rfl ?_
      exact K _ _ _ _ (⟨by simp [sNar, c_4, c_15], rfl⟩) dX4_narrowed_24 rfl
    · refine q_iload_n F 1 dX4_narrowed_18 rfl rfl ?_
      refine q_i2s F dX4_narrowed_19 ?_
      refine q_goto F 24 dX4_narrowed_20 (by decide) ?_
      exact K _ _ _ _ (⟨by simp [sNar, c_4, c_15], rfl⟩) dX4_narrowed_24 rfl
  · refine q_iload_n F 1 dX4_narrowed_7 rfl rfl ?_
    refine q_i2b F dX4_narrowed_8 ?_
    exact K _ _ _ _ (⟨by simp [sNar, c_4], rfl⟩) dX4_narrowed_9 rfl
set_option maxHeartbeats 4000000 in
set_option maxRecDepth 100000 in
theorem c_hasRun {G : vm_G} {σ : vm_M} {r : Nat} (hr : vm_sh r = (4, 4, [some (r + 1)]) ∧ vm_sh (r + 1) = (9, 40, [])) {m : Nat} (hm : σ r 3 = nI m) (h40 : m ≤ 40) (x y : Int32) : vm_RI G 0 mX4_hasRun [.ref r, .int x, .int y] σ (fun a σ' => a = bI (sRun x y m) ∧ σ' = σ) := by
  refine vm_int (y := mX4_hasRun) (by decide) (Nat.le_of_ble_eq_true rfl) (ls0 := [some (.ref r), some (.int x), some (.int y)]) rfl rfl (fun C F K => ?_)
  have F : vm_F G C cX4_hasRun RX4 3 _ := F
  show vm_Ex G C 3 0 [some (.ref r), some (.int x), some (.int y)] [] _
  refine q_iload_n F 2 dX4_hasRun_0 rfl rfl ?_
  refine q_if_lt F 30 dX4_hasRun_1 (by decide) (fun c_1 => ?_) (fun c_1 => ?_)
  · refine q_iconst F (nI 0) dX4_hasRun_30 (by decide) ?_
    refine K _ _ _ _ ?_ dX4_hasRun_31 (by decide)
    refine ⟨?_, rfl⟩
    first
      | exact run_t (by assumption) (by assumption) (by assumption) (by assumption) h40
      | exact run_f1 (by assumption)
      | exact run_f2 (by assumption) h40
      | exact run_f3 (by assumption)
      | exact run_f4 (by assumption) (by assumption) (by assumption) h40
  · refine q_iload_n F 2 dX4_hasRun_4 rfl rfl ?_
    refine q_aload_n F 0 dX4_hasRun_5 rfl rfl ?_
    refine gX4_23 F dX4_hasRun_6 hr.1 rfl ?_
    refine q_top (.int (nI m)) (congrArg Value.int (hm)) ?_
    refine q_icmp_gt F 30 dX4_hasRun_9 (by decide) (fun c_9 => ?_) (fun c_9 => ?_)
    · refine q_iconst F (nI 0) dX4_hasRun_30 (by decide) ?_
      refine K _ _ _ _ ?_ dX4_hasRun_31 (by decide)
      refine ⟨?_, rfl⟩
      first
        | exact run_t (by assumption) (by assumption) (by assumption) (by assumption) h40
        | exact run_f1 (by assumption)
        | exact run_f2 (by assumption) h40
        | exact run_f3 (by assumption)
        | exact run_f4 (by assumption) (by assumption) (by assumption) h40
    · refine q_iload_n F 1 dX4_hasRun_12 rfl rfl ?_
      refine q_if_lt F 30 dX4_hasRun_13 (by decide) (fun c_13 => ?_) (fun c_13 => ?_)
      · refine q_iconst F (nI 0) dX4_hasRun_30 (by decide) ?_
        refine K _ _ _ _ ?_ dX4_hasRun_31 (by decide)
        refine ⟨?_, rfl⟩
        first
          | exact run_t (by assumption) (by assumption) (by assumption) (by assumption) h40
          | exact run_f1 (by assumption)
          | exact run_f2 (by assumption) h40
          | exact run_f3 (by assumption)
          | exact run_f4 (by assumption) (by assumption) (by assumption) h40
      · refine q_iload_n F 1 dX4_hasRun_16 rfl rfl ?_
        refine q_aload_n F 0 dX4_hasRun_17 rfl rfl ?_
        refine gX4_23 F dX4_hasRun_18 hr.1 rfl ?_
        refine q_top (.int (nI m)) (congrArg Value.int (hm)) ?_
        refine q_iload_n F 2 dX4_hasRun_21 rfl rfl ?_
        refine q_isub F dX4_hasRun_22 ?_
        refine q_icmp_gt F 30 dX4_hasRun_23 (by decide) (fun c_23 => ?_) (fun c_23 => ?_)
        · refine q_iconst F (nI 0) dX4_hasRun_30 (by decide) ?_
          refine K _ _ _ _ ?_ dX4_hasRun_31 (by decide)
          refine ⟨?_, rfl⟩
          first
            | exact run_t (by assumption) (by assumption) (by assumption) (by assumption) h40
            | exact run_f1 (by assumption)
            | exact run_f2 (by assumption) h40
            | exact run_f3 (by assumption)
            | exact run_f4 (by assumption) (by assumption) (by assumption) h40
        · refine q_iconst F (nI 1) dX4_hasRun_26 (by decide) ?_
          refine q_goto F 31 dX4_hasRun_27 (by decide) ?_
          refine K _ _ _ _ ?_ dX4_hasRun_31 (by decide)
          refine ⟨?_, rfl⟩
          first
            | exact run_t (by assumption) (by assumption) (by assumption) (by assumption) h40
            | exact run_f1 (by assumption)
            | exact run_f2 (by assumption) h40
            | exact run_f3 (by assumption)
            | exact run_f4 (by assumption) (by assumption) (by assumption) h40
set_option maxHeartbeats 4000000 in
set_option maxRecDepth 100000 in
theorem c_isWithin {G : vm_G} {σ : vm_M} (x : Int32) {n : Nat} (hn : n < 2 ^ 31) : vm_RI G 0 mX7_isWithin [.int x, .int (nI n)] σ (fun a σ' => a = bI (wi x n) ∧ σ' = σ) := by
  refine vm_int (y := mX7_isWithin) (by decide) (Nat.le_of_ble_eq_true rfl) (ls0 := [some (.int x), some (.int (nI n))]) rfl rfl (fun C F K => ?_)
  have F : vm_F G C cX7_isWithin RX7 2 _ := F
  show vm_Ex G C 2 0 [some (.int x), some (.int (nI n))] [] _
  refine q_iload_n F 0 dX7_isWithin_0 rfl rfl ?_
  refine q_if_lt F 13 dX7_isWithin_1 (by decide) (fun c_1 => ?_) (fun c_1 => ?_)
  · refine q_iconst F (nI 0) dX7_isWithin_13 (by decide) ?_
    refine K _ _ _ _ ?_ dX7_isWithin_14 (by decide)
    refine ⟨?_, rfl⟩
    first
      | exact wi_t (by assumption) (by assumption) hn
      | exact wi_f1 (by assumption)
      | exact wi_f2 (by assumption) hn
  · refine q_iload_n F 0 dX7_isWithin_4 rfl rfl ?_
    refine q_iload_n F 1 dX7_isWithin_5 rfl rfl ?_
    refine q_icmp_ge F 13 dX7_isWithin_6 (by decide) (fun c_6 => ?_) (fun c_6 => ?_)
    · refine q_iconst F (nI 0) dX7_isWithin_13 (by decide) ?_
      refine K _ _ _ _ ?_ dX7_isWithin_14 (by decide)
      refine ⟨?_, rfl⟩
      first
        | exact wi_t (by assumption) (by assumption) hn
        | exact wi_f1 (by assumption)
        | exact wi_f2 (by assumption) hn
    · refine q_iconst F (nI 1) dX7_isWithin_9 (by decide) ?_
      refine q_goto F 14 dX7_isWithin_10 (by decide) ?_
      refine K _ _ _ _ ?_ dX7_isWithin_14 (by decide)
      refine ⟨?_, rfl⟩
      first
        | exact wi_t (by assumption) (by assumption) hn
        | exact wi_f1 (by assumption)
        | exact wi_f2 (by assumption) hn
set_option maxHeartbeats 4000000 in
set_option maxRecDepth 100000 in
theorem c_isForetold {G : vm_G} {σ : vm_M} (x : Int32) : vm_RI G 1 mX7_isForetold [.int x] σ (fun a σ' => a = bI (wi x 121) ∧ σ' = σ) := by
  refine vm_int (y := mX7_isForetold) (by decide) (Nat.le_of_ble_eq_true rfl) (ls0 := [some (.int x)]) rfl rfl (fun C F K => ?_)
  have F : vm_F G C cX7_isForetold RX7 1 _ := F
  show vm_Ex G C 1 0 [some (.int x)] [] _
  refine q_iload_n F 0 dX7_isForetold_0 rfl rfl ?_
  refine q_bipush F (nI 121) dX7_isForetold_1 (by decide) ?_
  refine iX7_76 F dX7_isForetold_3 (c_isWithin x (by decide)) (by decide) rfl rfl (Nat.le_of_ble_eq_true rfl) (fun v_3 σ_3 h_3 => ?_)
  obtain ⟨rfl, rfl⟩ := h_3
  exact K _ _ _ _ (⟨rfl, rfl⟩) dX7_isForetold_6 (nI_bool _)
set_option maxHeartbeats 4000000 in
set_option maxRecDepth 100000 in
theorem c_found {G : vm_G} {σ : vm_M} (x : Int32) : vm_RI G 0 mX7_found [.ref 0, .int x] σ (fun a σ' => a = -1000010 - x ∧ σ' = vm_upd σ 0 12 x) := by
  refine vm_int (y := mX7_found) (by decide) (Nat.le_of_ble_eq_true rfl) (ls0 := [some (.ref 0), some (.int x)]) rfl rfl (fun C F K => ?_)
  have F : vm_F G C cX7_found RX7 2 _ := F
  show vm_Ex G C 2 0 [some (.ref 0), some (.int x)] [] _
  refine q_aload_n F 0 dX7_found_0 rfl rfl ?_
  refine q_iload_n F 1 dX7_found_1 rfl rfl ?_
  refine pX7_72 F dX7_found_2 sh_0 rfl ⟨rfl, rfl⟩ ?_
  refine q_ldc F dX7_found_5 wX7_240 ?_
  refine q_iload_n F 1 dX7_found_7 rfl rfl ?_
  refine q_isub F dX7_found_8 ?_
  exact K _ _ _ _ (⟨rfl, rfl⟩) dX7_found_9 rfl
set_option maxHeartbeats 4000000 in
set_option maxRecDepth 100000 in
theorem c_foundNone {G : vm_G} {σ : vm_M} (x : Int32) : vm_RI G 0 mX7_foundNone [.ref 0, .int x] σ (fun a σ' => a = x ∧ σ' = vm_upd σ 0 12 (nI 0)) := by
  refine vm_int (y := mX7_foundNone) (by decide) (Nat.le_of_ble_eq_true rfl) (ls0 := [some (.ref 0), some (.int x)]) rfl rfl (fun C F K => ?_)
  have F : vm_F G C cX7_foundNone RX7 2 _ := F
  show vm_Ex G C 2 0 [some (.ref 0), some (.int x)] [] _
  refine q_aload_n F 0 dX7_foundNone_0 rfl rfl ?_
  refine q_iconst F (nI 0) dX7_foundNone_1 (by decide) ?_
  refine pX7_72 F dX7_foundNone_2 sh_0 rfl ⟨rfl, rfl⟩ ?_
  refine q_iload_n F 1 dX7_foundNone_5 rfl rfl ?_
  exact K _ _ _ _ (⟨rfl, rfl⟩) dX7_foundNone_6 rfl
set_option maxHeartbeats 4000000 in
set_option maxRecDepth 100000 in
theorem c_isAllBelow {G : vm_G} {σ : vm_M} {r : Nat} (hr : vm_sh r = (4, 4, [some (r + 1)]) ∧ vm_sh (r + 1) = (9, 40, [])) {n : Nat} (hn : n ≤ 40) : vm_RI G 1 mX4_isAllBelow [.ref r, .int (nI n)] σ (fun a σ' => a = bI (decide (sF (fun p => !(wi (σ (r + 1) p) n)) n = n)) ∧ σ' = σ) := by
  refine vm_int (y := mX4_isAllBelow) (by decide) (Nat.le_of_ble_eq_true rfl) (ls0 := [some (.ref r), some (.int (nI n)), none]) rfl rfl (fun C F K => ?_)
  have F : vm_F G C cX4_isAllBelow RX4 3 _ := F
  show vm_Ex G C 3 0 [some (.ref r), some (.int (nI n)), none] [] _
  have L : ∀ k i, (∀ p, p < i → wi (σ (r + 1) p) n = true) → i + k = n → vm_Ex G C 3 2 [some (.ref r), some (.int (nI n)), some (.int (nI i))] [] σ := by
    intro k
    induction k with
    | zero =>
      intro i hh hi
      refine q_iload_n F 2 dX4_isAllBelow_2 rfl rfl ?_
      refine q_iload_n F 1 dX4_isAllBelow_3 rfl rfl ?_
      refine n_ge F 28 dX4_isAllBelow_4 (by decide) (by omega) (by omega) (fun c_4 => ?_) (fun c_4 => ?_)
      · refine q_iconst F (nI 1) dX4_isAllBelow_28 (by decide) ?_
        refine K _ _ _ _ ?_ dX4_isAllBelow_29 (by decide)
        refine ⟨?_, rfl⟩
        rw [sF_none (fun p hp => by simpa using hh p (by omega)), decide_eq_true rfl]
        rfl
      · omega
    | succ k ih =>
      intro i hh hi
      refine q_iload_n F 2 dX4_isAllBelow_2 rfl rfl ?_
      refine q_iload_n F 1 dX4_isAllBelow_3 rfl rfl ?_
      refine n_ge F 28 dX4_isAllBelow_4 (by decide) (by omega) (by omega) (fun c_4 => ?_) (fun c_4 => ?_)
      · omega
      · refine q_aload_n F 0 dX4_isAllBelow_7 rfl rfl ?_
        refine gX4_9 F dX4_isAllBelow_8 hr.1 rfl ?_
        refine q_iload_n F 2 dX4_isAllBelow_11 rfl rfl ?_
        refine q_iald F dX4_isAllBelow_12 hr.2 (by omega) (by decide) ?_
        refine q_iload_n F 1 dX4_isAllBelow_13 rfl rfl ?_
        refine q_nest F dX4_isAllBelow_14 (c_isWithin _ (by omega)) (by decide) rfl (Nat.le_of_ble_eq_true rfl) (fun v_14 σ_14 h_14 => ?_)
        obtain ⟨rfl, rfl⟩ := h_14
        refine b_ne F 22 dX4_isAllBelow_17 (by decide) (fun c_17 => ?_) (fun c_17 => ?_)
        · refine q_iinc2 F _ dX4_isAllBelow_22 (nI_inc _) (by decide) rfl ?_
          refine q_goto F 2 dX4_isAllBelow_25 (by decide) ?_
          exact ih (i + 1) (fun p hp => by
            rcases Nat.lt_or_ge p i with q | q
            · exact hh p q
            · rw [show p = i by omega]; exact c_17) (by omega)
        · refine q_iconst F (nI 0) dX4_isAllBelow_20 (by decide) ?_
          refine K _ _ _ _ ?_ dX4_isAllBelow_21 (by decide)
          refine ⟨?_, rfl⟩
          rw [sF_at (i := i) (fun p hp => by simpa using hh p hp) (by simpa using c_17) c_4, decide_eq_false (by omega)]
          rfl
  refine q_iconst F (nI 0) dX4_isAllBelow_0 (by decide) ?_
  refine q_istore_n2 F dX4_isAllBelow_1 (by decide) rfl ?_
  exact L n 0 (fun p hp => absurd hp (Nat.not_lt_zero _)) (by omega)
