/-- the texts: their lengths, their signs -/
def tx_len (i : Nat) : Nat := (vm_tx.map (fun q => q.2.2.length)).getD i 0
def tx_ch (i k : Nat) : Int32 := ((vm_tx.map (fun q => q.2.2)).getD i []).getD k 0
theorem tx_small : ∀ i, i < 7 → tx_len i < 7 ∧ ∀ k, k < tx_len i → ∃ c, c < 128 ∧ tx_ch i k = nI c := by decide +kernel
theorem tx_len_small {i : Nat} (hi : i < 7) : tx_len i < 7 := (tx_small i hi).1
section
variable {G : vm_G} {C : vm_C} {cc : ByteArray} {own : String} {nL d pc idx i : Nat} {ls : List (Option Value)} {st : List Value} {σ : vm_M}
theorem q_tval (F : vm_F G C cc RJ0 nL d) (dd : decode cc pc = .ok (.getfield 9, 3)) (hi : i < 7) (kk : vm_Ex G C nL (pc + 3) ls (.ref (3000 + i) :: st) σ) : vm_Ex G C nL pc ls (.ref (2000 + i) :: st) σ := by
  intro H locs la hP hS hl
  obtain ⟨-, -, -, hE, -⟩ := F.2.2.2.2.2.2.1
  exact vk_getf F.1 F.2.1 (hE.1 i hi).2.2.1 hS F.2.2.2.1 (F.2.2.2.2.1 _ (vm_mem 1060 (by decide +kernel) (by decide +kernel))) (fun _ h => h) dd (kk H locs la hP hS hl)
theorem q_tcod (F : vm_F G C cc RJ0 nL d) (dd : decode cc pc = .ok (.getfield 15, 3)) (hi : i < 7) (kk : vm_Ex G C nL (pc + 3) ls (.int (nI 0) :: st) σ) : vm_Ex G C nL pc ls (.ref (2000 + i) :: st) σ := by
  intro H locs la hP hS hl
  obtain ⟨-, -, -, hE, -⟩ := F.2.2.2.2.2.2.1
  have hk := kk H locs la hP hS hl
  rw [nI_0] at hk
  exact vk_getf F.1 F.2.1 (hE.1 i hi).2.1 hS F.2.2.2.1 (F.2.2.2.2.1 _ (vm_mem 1061 (by decide +kernel) (by decide +kernel))) (fun _ h => h) dd hk
theorem q_tcomp (F : vm_F G C cc RJ0 nL d) (dd : decode cc pc = .ok (.getstatic 38, 3)) (kk : vm_Ex G C nL (pc + 3) ls (.int (nI 1) :: st) σ) : vm_Ex G C nL pc ls st σ := by
  intro H locs la hP hS hl
  obtain ⟨-, -, ⟨hZ, -⟩, -⟩ := F.2.2.2.2.2.2.1
  have hk := kk H locs la hP hS hl
  rw [nI_one] at hk
  exact va_gets F.1 F.2.1 hZ hS F.2.2.2.1 (F.2.2.2.2.1 _ (vm_mem 376 (by decide +kernel) (by decide +kernel))) (fun _ h => h) dd hk
theorem q_tsio (F : vm_F G C cc RJ0 nL d) (dd : decode cc pc = .ok (.getstatic 1053, 3)) (kk : ∀ v : Value, v.category = 1 → vm_Ex G C nL (pc + 3) ls (v :: st) σ) : vm_Ex G C nL pc ls st σ := by
  intro H locs la hP hS hl
  obtain ⟨-, -, ⟨-, hZ⟩, -⟩ := F.2.2.2.2.2.2.1
  have hw : (Cond.fieldLink RJ0 1053 "jdk/internal/util/Preconditions" "SIOOBE_FORMATTER" "Ljava/util/function/BiFunction;").before (vm_ca C) (vm_cs C) = true := F.2.2.2.2.1 _ (vm_mem 392 (by decide +kernel) (by decide +kernel))
  rcases hZ with hZ | hZ
  · exact va_gets F.1 F.2.1 hZ hS F.2.2.2.1 hw (fun _ h => h) dd (kk .null rfl H locs la hP hS hl)
  · exact va_gets F.1 F.2.1 hZ hS F.2.2.2.1 hw (fun _ h => h) dd (kk (.ref 4001) rfl H locs la hP hS hl)
theorem q_tlen (F : vm_F G C cc own nL d) (dd : decode cc pc = .ok (.arraylength, 1)) (hi : i < 7) (kk : vm_Ex G C nL (pc + 1) ls (.int (nI (tx_len i)) :: st) σ) : vm_Ex G C nL pc ls (.ref (3000 + i) :: st) σ := by
  intro H locs la hP hS hl
  obtain ⟨-, -, -, hE, -⟩ := F.2.2.2.2.2.2.1
  exact va_tlen F.1 F.2.1 (hE.1 i hi).2.2.2 hS (v := nI (tx_len i)) rfl dd (kk H locs la hP hS hl)
theorem q_tbyte {k : Nat} (F : vm_F G C cc own nL d) (dd : decode cc pc = .ok (.baload, 1)) (hi : i < 7) (hk : k < tx_len i) (kk : vm_Ex G C nL (pc + 1) ls (.int (tx_ch i k) :: st) σ) : vm_Ex G C nL pc ls (.int (nI k) :: .ref (3000 + i) :: st) σ := by
  intro H locs la hP hS hl
  obtain ⟨-, -, -, hE, -⟩ := F.2.2.2.2.2.2.1
  have h7 := tx_len_small hi
  refine va_tb F.1 F.2.1 (hE.1 i hi).2.2.2 hS (show vp_in (nI k) (tx_len i) from vp_in_nI hk (by omega)) (v := .int (tx_ch i k)) (by rw [nI_clamp (by omega)]; rfl) dd (kk H locs la hP hS hl)
theorem q_ldct {tx : String} {bs : List Int32} (hq : vm_tx[i]? = some (idx, tx, bs)) (F : vm_F G C cc RX3 nL d) (dd : decode cc pc = .ok (.ldc idx, 2)) (kk : vm_Ex G C nL (pc + 2) ls (.ref (2000 + i) :: st) σ) : vm_Ex G C nL pc ls st σ := by
  intro H locs la hP hS hl
  obtain ⟨-, -, -, -, hR, -⟩ := F.2.2.2.2.2.2.1
  exact va_ldcS F.1 F.2.1 F.2.2.2.1 (hR i _ hq) dd (kk H locs la hP hS hl)
theorem q_sv {y : vm_Y} {d' : Nat} {As st0 : List Value} {post : vm_M → Prop} (hk : vm_kS own idx y As.length) (F : vm_F G C cc own nL d) (dd : decode cc pc = .ok (.invokestatic idx, 3)) (hM : vm_RV G d' y As σ post) (hd : d' < d) (hst : As.reverse ++ st = st0) (hcat : (st.map fun v => v.category).sum ≤ 8)
    (kk : ∀ σ', post σ' → vm_Ex G C nL (pc + 3) ls st σ') : vm_Ex G C nL pc ls st0 σ := by
  intro H locs la hP hS hl
  exact va_callv (vm_runS F hM hd hk dd hst hcat hP hS hl) hS (fun q _ h => vm_AA F q h) (vm_AA F) (fun u t H1 locs1 ht hvm hw hB hz hk1 hS1 => kk u hw H1 locs1 la (by rw [← ht]; exact hB.1) hS1 hl)
/-- a call on a text -/
theorem q_ti {y : vm_Y} {d' : Nat} {As st0 : List Value} {post : Int32 → vm_M → Prop} (hk : vm_kV own idx y As.length) (hy : y.1.cls = "java/lang/String") (hi : i < 7) (F : vm_F G C cc own nL d) (dd : decode cc pc = .ok (.invokevirtual idx, 3)) (hM : vm_RI G d' y (.ref (2000 + i) :: As) σ post) (hd : d' < d) (hst : As.reverse ++ .ref (2000 + i) :: st = st0) (hcat : (st.map fun v => v.category).sum ≤ 8)
    (kk : ∀ v σ', post v σ' → vm_Ex G C nL (pc + 3) ls (.int v :: st) σ') : vm_Ex G C nL pc ls st0 σ := by
  intro H locs la hP hS hl
  obtain ⟨-, -, -, -, -, -, -, -, -, f1, f2, f3, f4⟩ := id F
  obtain ⟨k1, k2, -⟩ := id hk
  obtain ⟨-, -, -, hE, -⟩ := F.2.2.2.2.2.2.1
  refine va_calli (va_runV (C := y.1.cls) (b := G.2.2.1 (2000 + i)) (As := As.map (vm_rv G.2.2.1)) (rest := st.map (vm_rv G.2.2.1)) (g := F0 (vm_cm C) pc la (st0.map (vm_rv G.2.2.1))) (n := As.length) (ret := y.2.2.2) (bytes := y.2.1) (maxL := y.2.2.1) (vm_fix F) hM (cwV As.length F.2.2.2.2.1 (vm_kV_good hk) rfl rfl rfl ⟨rfl, k1⟩ ⟨by show d' + 1 ≤ _; omega, by show 8 + (y.2.2.1 + 11) + 40 * d' ≤ _; omega⟩) ⟨vm_blind G _ σ, by rw [hy]; exact vk_recv (i := i) hE hi hS, fun U hU hW => vm_pre F (As := .ref (2000 + i) :: As) hP hS U hU hW⟩ rfl (by simp) hl.1 ?_ (lv_room (by rw [vm_cats]; exact hcat)) dd ⟨f3, f4⟩) hS (fun q _ h => vm_AA F q h) (vm_AA F) (fun r u t H1 locs1 ht hvm hw hB hz hk1 hS1 => kk r u hw H1 locs1 la (by rw [← ht]; exact hB.1) hS1 hl)
  subst hst
  show List.map _ _ = _
  simp [vm_rv]
end
set_option maxHeartbeats 4000000 in
set_option maxRecDepth 100000 in
theorem c_coder {G : vm_G} {σ : vm_M} {i : Nat} (hi : i < 7) : vm_RI G 0 mJ0_coder_7d493 [.ref (2000 + i)] σ (fun r σ' => r = nI 0 ∧ σ' = σ) := by
  refine vm_int (y := mJ0_coder_7d493) (by decide) (Nat.le_of_ble_eq_true rfl) (ls0 := [some (.ref (2000 + i))]) rfl rfl (fun C F K => ?_)
  have F : vm_F G C cJ0_coder_7d493 RJ0 1 _ := F
  show vm_Ex G C 1 0 [some (.ref (2000 + i))] [] _
  refine q_tcomp F dJ0_coder_7d493_0 ?_
  refine z_eq F 13 dJ0_coder_7d493_3 (by decide) (by omega) (fun c_3 => ?_) (fun c_3 => ?_)
  · omega
  · refine q_aload_n F 0 dJ0_coder_7d493_6 rfl rfl ?_
    refine q_tcod F dJ0_coder_7d493_7 hi ?_
    refine q_goto F 14 dJ0_coder_7d493_10 (by decide) ?_
    exact K _ _ _ _ (⟨rfl, rfl⟩) dJ0_coder_7d493_14 (by decide)
set_option maxHeartbeats 4000000 in
set_option maxRecDepth 100000 in
theorem c_isLatin1 {G : vm_G} {σ : vm_M} {i : Nat} (hi : i < 7) : vm_RI G 0 mJ0_isLatin1_aae02 [.ref (2000 + i)] σ (fun r σ' => r = nI 1 ∧ σ' = σ) := by
  refine vm_int (y := mJ0_isLatin1_aae02) (by decide) (Nat.le_of_ble_eq_true rfl) (ls0 := [some (.ref (2000 + i))]) rfl rfl (fun C F K => ?_)
  have F : vm_F G C cJ0_isLatin1_aae02 RJ0 1 _ := F
  show vm_Ex G C 1 0 [some (.ref (2000 + i))] [] _
  refine q_tcomp F dJ0_isLatin1_aae02_0 ?_
  refine z_eq F 17 dJ0_isLatin1_aae02_3 (by decide) (by omega) (fun c_3 => ?_) (fun c_3 => ?_)
  · omega
  · refine q_aload_n F 0 dJ0_isLatin1_aae02_6 rfl rfl ?_
    refine q_tcod F dJ0_isLatin1_aae02_7 hi ?_
    refine z_ne F 17 dJ0_isLatin1_aae02_10 (by decide) (by omega) (fun c_10 => ?_) (fun c_10 => ?_)
    · omega
    · refine q_iconst F (nI 1) dJ0_isLatin1_aae02_13 (by decide) ?_
      refine q_goto F 18 dJ0_isLatin1_aae02_14 (by decide) ?_
      exact K _ _ _ _ (⟨rfl, rfl⟩) dJ0_isLatin1_aae02_18 (by decide)
set_option maxHeartbeats 4000000 in
set_option maxRecDepth 100000 in
theorem c_strlen {G : vm_G} {σ : vm_M} {i : Nat} (hi : i < 7) : vm_RI G 1 mJ0_length_8abf5 [.ref (2000 + i)] σ (fun r σ' => r = nI (tx_len i) ∧ σ' = σ) := by
  refine vm_int (y := mJ0_length_8abf5) (by decide) (Nat.le_of_ble_eq_true rfl) (ls0 := [some (.ref (2000 + i))]) rfl rfl (fun C F K => ?_)
  have F : vm_F G C cJ0_length_8abf5 RJ0 1 _ := F
  show vm_Ex G C 1 0 [some (.ref (2000 + i))] [] _
  refine q_aload_n F 0 dJ0_length_8abf5_0 rfl rfl ?_
  refine q_tval F dJ0_length_8abf5_1 hi ?_
  refine q_tlen F dJ0_length_8abf5_4 hi ?_
  refine q_aload_n F 0 dJ0_length_8abf5_5 rfl rfl ?_
  refine q_ti (As := []) kJ0_335 rfl hi F dJ0_length_8abf5_6 (c_coder hi) (by decide) rfl (Nat.le_of_ble_eq_true rfl) (fun v_6 σ_6 h_6 => ?_)
  obtain ⟨rfl, rfl⟩ := h_6
  refine q_ishr F dJ0_length_8abf5_9 ?_
  refine K _ _ _ _ ?_ dJ0_length_8abf5_10 rfl
  refine ⟨?_, rfl⟩
  exact pk_shrN (k := 0) (by have := tx_len_small hi; omega) _ (by decide) |>.trans (by rw [Nat.pow_zero, Nat.div_one])
set_option maxHeartbeats 4000000 in
set_option maxRecDepth 100000 in
theorem c_prec {G : vm_G} {σ : vm_M} {a b : Nat} (hab : a < b) (hb : b < 2 ^ 31) {v : Value} (hv : v.category = 1) : vm_RI G 0 mJ3_checkIndex_8e157 [.int (nI a), .int (nI b), v] σ (fun r σ' => r = nI a ∧ σ' = σ) := by
  have hls : vm_ls [.int (nI a), .int (nI b), v] = [some (.int (nI a)), some (.int (nI b)), some v] := by cases v <;> first | rfl | (simp [Value.category] at hv)
  refine vm_int (y := mJ3_checkIndex_8e157) (by decide) (by cases v <;> first | exact Nat.le_of_ble_eq_true rfl | (simp [Value.category] at hv)) (ls0 := [some (.int (nI a)), some (.int (nI b)), some v]) (by rw [hls]; rfl) rfl (fun C F K => ?_)
  have F : vm_F G C cJ3_checkIndex_8e157 RJ3 3 _ := F
  show vm_Ex G C 3 0 [some (.int (nI a)), some (.int (nI b)), some v] [] _
  refine q_iload_n F 0 dJ3_checkIndex_8e157_0 rfl rfl ?_
  refine q_if_lt F 9 dJ3_checkIndex_8e157_1 (by decide) (fun c_1 => ?_) (fun c_1 => ?_)
  · exact absurd c_1 (nI_pos (by omega))
  · refine q_iload_n F 0 dJ3_checkIndex_8e157_4 rfl rfl ?_
    refine q_iload_n F 1 dJ3_checkIndex_8e157_5 rfl rfl ?_
    refine q_icmp_lt F 16 dJ3_checkIndex_8e157_6 (by decide) (fun c_6 => ?_) (fun c_6 => ?_)
    · refine q_iload_n F 0 dJ3_checkIndex_8e157_16 rfl rfl ?_
      exact K _ _ _ _ (⟨rfl, rfl⟩) dJ3_checkIndex_8e157_17 rfl
    · exact absurd (nI_lt hab hb) c_6
set_option maxHeartbeats 4000000 in
set_option maxRecDepth 100000 in
theorem c_checkIndex {G : vm_G} {σ : vm_M} {a b : Nat} (hab : a < b) (hb : b < 2 ^ 31) : vm_RV G 1 mJ0_checkIndex_df160 [.int (nI a), .int (nI b)] σ (fun σ' => σ' = σ) := by
  refine vm_void (y := mJ0_checkIndex_df160) (by decide) (Nat.le_of_ble_eq_true rfl) (ls0 := [some (.int (nI a)), some (.int (nI b))]) rfl rfl (fun C F K => ?_)
  have F : vm_F G C cJ0_checkIndex_df160 RJ0 2 _ := F
  show vm_Ex G C 2 0 [some (.int (nI a)), some (.int (nI b))] [] _
  refine q_iload_n F 0 dJ0_checkIndex_df160_0 rfl rfl ?_
  refine q_iload_n F 1 dJ0_checkIndex_df160_1 rfl rfl ?_
  refine q_tsio F dJ0_checkIndex_df160_2 (fun sio hsio => ?_)
  refine iJ0_1059 F dJ0_checkIndex_df160_5 (c_prec hab hb hsio) (by decide) rfl rfl (Nat.le_of_ble_eq_true rfl) (fun v_5 σ_5 h_5 => ?_)
  obtain ⟨rfl, rfl⟩ := h_5
  refine q_pop F dJ0_checkIndex_df160_8 rfl ?_
  exact K _ _ _ (rfl) dJ0_checkIndex_df160_9
theorem tx_c1 : ∀ c, c < 128 → ((nI c &&& nI 255).toUInt32 % 65536).toInt32 = nI c := by decide +kernel
theorem tx_c2 : ∀ c, c < 128 → ((nI c &&& nI 255).toUInt32 % 65536).toInt32 = nI c ∧ narrow .char (.int ((nI c &&& nI 255).toUInt32 % 65536).toInt32) = .int ((nI c &&& nI 255).toUInt32 % 65536).toInt32 := fun c hc => by
  have e : ((nI c &&& nI 255).toUInt32 % 65536).toInt32 = nI c := tx_c1 c hc
  refine ⟨e, ?_⟩
  rw [e]
  exact (pk_charN (by omega)).1
theorem tx_c3 : ∀ c, c < 128 → narrow .char (.int (nI c)) = .int (nI c) := fun c hc => (pk_charN (by omega)).1
set_option maxHeartbeats 4000000 in
set_option maxRecDepth 100000 in
theorem c_l1charAt {G : vm_G} {σ : vm_M} {i : Nat} (hi : i < 7) {k : Nat} (hk : k < tx_len i) : vm_RI G 2 mJ1_charAt_3b067 [.ref (3000 + i), .int (nI k)] σ (fun r σ' => r = tx_ch i k ∧ σ' = σ) := by
  refine vm_int (y := mJ1_charAt_3b067) (by decide) (Nat.le_of_ble_eq_true rfl) (ls0 := [some (.ref (3000 + i)), some (.int (nI k))]) rfl rfl (fun C F K => ?_)
  have F : vm_F G C cJ1_charAt_3b067 RJ1 2 _ := F
  show vm_Ex G C 2 0 [some (.ref (3000 + i)), some (.int (nI k))] [] _
  have h7 := tx_len_small hi
  obtain ⟨c, hc, ec⟩ := (tx_small i hi).2 k hk
  refine q_iload_n F 1 dJ1_charAt_3b067_0 rfl rfl ?_
  refine q_aload_n F 0 dJ1_charAt_3b067_1 rfl rfl ?_
  refine q_tlen F dJ1_charAt_3b067_2 hi ?_
  refine q_sv (As := [.int (nI k), .int (nI (tx_len i))]) kJ1_9 F dJ1_charAt_3b067_3 (c_checkIndex hk (by omega)) (by decide) rfl (Nat.le_of_ble_eq_true rfl) (fun σ_3 h_3 => ?_)
  subst h_3
  refine q_aload_n F 0 dJ1_charAt_3b067_6 rfl rfl ?_
  refine q_iload_n F 1 dJ1_charAt_3b067_7 rfl rfl ?_
  refine q_tbyte F dJ1_charAt_3b067_8 hi hk ?_
  refine q_sipush F (nI 255) dJ1_charAt_3b067_9 (by decide) ?_
  refine q_iand F dJ1_charAt_3b067_12 ?_
  refine q_i2c F dJ1_charAt_3b067_13 ?_
  exact K _ _ _ _ (⟨by rw [ec]; exact (tx_c2 c hc).1, rfl⟩) dJ1_charAt_3b067_14 (by rw [ec]; exact (tx_c2 c hc).2)
set_option maxHeartbeats 4000000 in
set_option maxRecDepth 100000 in
theorem c_charAt {G : vm_G} {σ : vm_M} {i : Nat} (hi : i < 7) {k : Nat} (hk : k < tx_len i) : vm_RI G 3 mJ0_charAt_5068e [.ref (2000 + i), .int (nI k)] σ (fun r σ' => r = tx_ch i k ∧ σ' = σ) := by
  refine vm_int (y := mJ0_charAt_5068e) (by decide) (Nat.le_of_ble_eq_true rfl) (ls0 := [some (.ref (2000 + i)), some (.int (nI k))]) rfl rfl (fun C F K => ?_)
  have F : vm_F G C cJ0_charAt_5068e RJ0 2 _ := F
  show vm_Ex G C 2 0 [some (.ref (2000 + i)), some (.int (nI k))] [] _
  obtain ⟨c, hc, ec⟩ := (tx_small i hi).2 k hk
  refine q_aload_n F 0 dJ0_charAt_5068e_0 rfl rfl ?_
  refine q_ti (As := []) kJ0_492 rfl hi F dJ0_charAt_5068e_1 (c_isLatin1 hi) (by decide) rfl (Nat.le_of_ble_eq_true rfl) (fun v_1 σ_1 h_1 => ?_)
  obtain ⟨rfl, rfl⟩ := h_1
  refine z_eq F 16 dJ0_charAt_5068e_4 (by decide) (by omega) (fun c_4 => ?_) (fun c_4 => ?_)
  · omega
  · refine q_aload_n F 0 dJ0_charAt_5068e_7 rfl rfl ?_
    refine q_tval F dJ0_charAt_5068e_8 hi ?_
    refine q_iload_n F 1 dJ0_charAt_5068e_11 rfl rfl ?_
    refine iJ0_495 F dJ0_charAt_5068e_12 (c_l1charAt hi hk) (by decide) rfl rfl (Nat.le_of_ble_eq_true rfl) (fun v_12 σ_12 h_12 => ?_)
    obtain ⟨rfl, rfl⟩ := h_12
    exact K _ _ _ _ (⟨rfl, rfl⟩) dJ0_charAt_5068e_15 (by rw [ec]; exact tx_c3 c hc)
