theorem CInv.tr {σ σ' : vm_M} {T : vm_T} (h : CInv σ T) {t : Nat × (Nat → Int32)} (h1 : cTr σ' t.1 t.2) (hf : ∀ o, o ≠ 171 → o ≠ 172 → σ' o = σ o) : CInv σ' (sT_tr T t) := by
  obtain ⟨g1, g2, g3, g4, g5, g6, g7, g8, w, g9, g10⟩ := h
  exact ⟨g1.fr (fun o a b => hf o (by omega) (by omega)), g2.fr (hf 3 (by omega) (by omega)) (hf 4 (by omega) (by omega)), g3.fr (by rw [hf 0 (by omega) (by omega)]) (fun o a b => hf o (by omega) (by omega)), g4.fr (fun o a b => hf o (by omega) (by omega)), g5.fr (hf 24 (by omega) (by omega)) (fun o a b => hf o (by omega) (by omega)), h1, by rw [hf 0 (by omega) (by omega)]; exact g7, by rw [hf 0 (by omega) (by omega)]; exact g8, w, g9.fr (fun o a b => hf o (by omega) (by omega)), g10⟩
set_option maxHeartbeats 4000000 in
set_option maxRecDepth 100000 in
theorem c_nearS {G : vm_G} {σ : vm_M} {k : Nat} (hk : k < 6) : vm_RI G 0 mX7_nearestBody [.ref 1001, .int (nI k)] σ (fun r σ' => r = sNb vm_sizeB k ∧ σ' = σ) := by
  refine vm_int (y := mX7_nearestBody) (by decide) (Nat.le_of_ble_eq_true rfl) (ls0 := [some (.ref 1001), some (.int (nI k)), none, none]) rfl rfl (fun C F K => ?_)
  have F : vm_F G C cX7_nearestBody RX7 4 _ := F
  show vm_Ex G C 4 0 [some (.ref 1001), some (.int (nI k)), none, none] [] _
  have L : ∀ m i, (∀ q, q < i → vm_sizeB.getD (sUp k q) 0 = 0) → i + m = 6 → vm_Ex G C 4 4 [some (.ref 1001), some (.int (nI k)), some (.int (nI (sUp k i))), some (.int (nI i))] [] σ := by
    intro m
    induction m with
    | zero =>
      intro i hh hi
      refine q_iload_n F 3 dX7_nearestBody_4 rfl rfl ?_
      refine q_bipush F (nI 6) dX7_nearestBody_5 (by decide) ?_
      refine n_ge F 28 dX7_nearestBody_7 (by decide) (by omega) (by omega) (fun c_7 => ?_) (fun c_7 => ?_)
      · refine q_aload_n F 0 dX7_nearestBody_28 rfl rfl ?_
        refine q_iload_n F 2 dX7_nearestBody_29 rfl rfl ?_
        refine q_sald (by first | exact Or.inl rfl | exact Or.inr (Or.inl rfl) | exact Or.inr (Or.inr rfl)) F dX7_nearestBody_30 (sUp_lt hk i) ?_
        refine K _ _ _ _ ?_ dX7_nearestBody_31 rfl
        refine ⟨?_, rfl⟩
        unfold sNb
        rw [sF_none (fun q hq => by simp only [hh q (by omega), decide_true, Bool.not_true]), show i = 6 by omega]
      · omega
    | succ m ih =>
      intro i hh hi
      refine q_iload_n F 3 dX7_nearestBody_4 rfl rfl ?_
      refine q_bipush F (nI 6) dX7_nearestBody_5 (by decide) ?_
      refine n_ge F 28 dX7_nearestBody_7 (by decide) (by omega) (by omega) (fun c_7 => ?_) (fun c_7 => ?_)
      · omega
      · refine q_aload_n F 0 dX7_nearestBody_10 rfl rfl ?_
        refine q_iload_n F 2 dX7_nearestBody_11 rfl rfl ?_
        refine q_sald (by first | exact Or.inl rfl | exact Or.inr (Or.inl rfl) | exact Or.inr (Or.inr rfl)) F dX7_nearestBody_12 (sUp_lt hk i) ?_
        refine q_if_ne F 28 dX7_nearestBody_13 (by decide) (fun c_13 => ?_) (fun c_13 => ?_)
        · refine q_aload_n F 0 dX7_nearestBody_28 rfl rfl ?_
          refine q_iload_n F 2 dX7_nearestBody_29 rfl rfl ?_
          refine q_sald (by first | exact Or.inl rfl | exact Or.inr (Or.inl rfl) | exact Or.inr (Or.inr rfl)) F dX7_nearestBody_30 (sUp_lt hk i) ?_
          refine K _ _ _ _ ?_ dX7_nearestBody_31 rfl
          refine ⟨?_, rfl⟩
          unfold sNb
          rw [sF_at (i := i) (fun q hq => by simp only [hh q hq, decide_true, Bool.not_true]) (by simp only [c_13, decide_false, Bool.not_false]) (by omega)]
        · refine sX7_247 F dX7_nearestBody_16 ?_
          refine q_iload_n F 2 dX7_nearestBody_19 rfl rfl ?_
          refine q_sald (by first | exact Or.inl rfl | exact Or.inr (Or.inl rfl) | exact Or.inr (Or.inr rfl)) F dX7_nearestBody_20 (sUp_lt hk i) ?_
          refine q_top (.int (nI (sUp k (i + 1)))) (congrArg Value.int ((up_lt _ (sUp_lt hk i)).2)) ?_
          refine q_istore_n2 F dX7_nearestBody_21 (by decide) rfl ?_
          refine q_iinc3 F _ dX7_nearestBody_22 (nI_inc _) (by decide) rfl ?_
          refine q_goto F 4 dX7_nearestBody_25 (by decide) ?_
          exact ih (i + 1) (fun q hq => by
            rcases Nat.lt_or_ge q i with z | z
            · exact hh q z
            · rw [show q = i by omega]; exact c_13) (by omega)
  refine q_iload_n F 1 dX7_nearestBody_0 rfl rfl ?_
  refine q_istore_n2 F dX7_nearestBody_1 (by decide) rfl ?_
  refine q_iconst F (nI 0) dX7_nearestBody_2 (by decide) ?_
  refine q_istore_n3 F dX7_nearestBody_3 (by decide) rfl ?_
  exact L 6 0 (fun q hq => absurd hq (Nat.not_lt_zero _)) (by omega)
set_option maxHeartbeats 4000000 in
set_option maxRecDepth 100000 in
theorem c_nearM {G : vm_G} {σ : vm_M} {k : Nat} (hk : k < 6) : vm_RI G 0 mX7_nearestBody [.ref 1002, .int (nI k)] σ (fun r σ' => r = sNb vm_markB k ∧ σ' = σ) := by
  refine vm_int (y := mX7_nearestBody) (by decide) (Nat.le_of_ble_eq_true rfl) (ls0 := [some (.ref 1002), some (.int (nI k)), none, none]) rfl rfl (fun C F K => ?_)
  have F : vm_F G C cX7_nearestBody RX7 4 _ := F
  show vm_Ex G C 4 0 [some (.ref 1002), some (.int (nI k)), none, none] [] _
  have L : ∀ m i, (∀ q, q < i → vm_markB.getD (sUp k q) 0 = 0) → i + m = 6 → vm_Ex G C 4 4 [some (.ref 1002), some (.int (nI k)), some (.int (nI (sUp k i))), some (.int (nI i))] [] σ := by
    intro m
    induction m with
    | zero =>
      intro i hh hi
      refine q_iload_n F 3 dX7_nearestBody_4 rfl rfl ?_
      refine q_bipush F (nI 6) dX7_nearestBody_5 (by decide) ?_
      refine n_ge F 28 dX7_nearestBody_7 (by decide) (by omega) (by omega) (fun c_7 => ?_) (fun c_7 => ?_)
      · refine q_aload_n F 0 dX7_nearestBody_28 rfl rfl ?_
        refine q_iload_n F 2 dX7_nearestBody_29 rfl rfl ?_
        refine q_sald (by first | exact Or.inl rfl | exact Or.inr (Or.inl rfl) | exact Or.inr (Or.inr rfl)) F dX7_nearestBody_30 (sUp_lt hk i) ?_
        refine K _ _ _ _ ?_ dX7_nearestBody_31 rfl
        refine ⟨?_, rfl⟩
        unfold sNb
        rw [sF_none (fun q hq => by simp only [hh q (by omega), decide_true, Bool.not_true]), show i = 6 by omega]
      · omega
    | succ m ih =>
      intro i hh hi
      refine q_iload_n F 3 dX7_nearestBody_4 rfl rfl ?_
      refine q_bipush F (nI 6) dX7_nearestBody_5 (by decide) ?_
      refine n_ge F 28 dX7_nearestBody_7 (by decide) (by omega) (by omega) (fun c_7 => ?_) (fun c_7 => ?_)
      · omega
      · refine q_aload_n F 0 dX7_nearestBody_10 rfl rfl ?_
        refine q_iload_n F 2 dX7_nearestBody_11 rfl rfl ?_
        refine q_sald (by first | exact Or.inl rfl | exact Or.inr (Or.inl rfl) | exact Or.inr (Or.inr rfl)) F dX7_nearestBody_12 (sUp_lt hk i) ?_
        refine q_if_ne F 28 dX7_nearestBody_13 (by decide) (fun c_13 => ?_) (fun c_13 => ?_)
        · refine q_aload_n F 0 dX7_nearestBody_28 rfl rfl ?_
          refine q_iload_n F 2 dX7_nearestBody_29 rfl rfl ?_
          refine q_sald (by first | exact Or.inl rfl | exact Or.inr (Or.inl rfl) | exact Or.inr (Or.inr rfl)) F dX7_nearestBody_30 (sUp_lt hk i) ?_
          refine K _ _ _ _ ?_ dX7_nearestBody_31 rfl
          refine ⟨?_, rfl⟩
          unfold sNb
          rw [sF_at (i := i) (fun q hq => by simp only [hh q hq, decide_true, Bool.not_true]) (by simp only [c_13, decide_false, Bool.not_false]) (by omega)]
        · refine sX7_247 F dX7_nearestBody_16 ?_
          refine q_iload_n F 2 dX7_nearestBody_19 rfl rfl ?_
          refine q_sald (by first | exact Or.inl rfl | exact Or.inr (Or.inl rfl) | exact Or.inr (Or.inr rfl)) F dX7_nearestBody_20 (sUp_lt hk i) ?_
          refine q_top (.int (nI (sUp k (i + 1)))) (congrArg Value.int ((up_lt _ (sUp_lt hk i)).2)) ?_
          refine q_istore_n2 F dX7_nearestBody_21 (by decide) rfl ?_
          refine q_iinc3 F _ dX7_nearestBody_22 (nI_inc _) (by decide) rfl ?_
          refine q_goto F 4 dX7_nearestBody_25 (by decide) ?_
          exact ih (i + 1) (fun q hq => by
            rcases Nat.lt_or_ge q i with z | z
            · exact hh q z
            · rw [show q = i by omega]; exact c_13) (by omega)
  refine q_iload_n F 1 dX7_nearestBody_0 rfl rfl ?_
  refine q_istore_n2 F dX7_nearestBody_1 (by decide) rfl ?_
  refine q_iconst F (nI 0) dX7_nearestBody_2 (by decide) ?_
  refine q_istore_n3 F dX7_nearestBody_3 (by decide) rfl ?_
  exact L 6 0 (fun q hq => absurd hq (Nat.not_lt_zero _)) (by omega)
set_option maxHeartbeats 4000000 in
set_option maxRecDepth 100000 in
theorem c_g10 {G : vm_G} {σ : vm_M} {v : vm_V} (hN : isP σ 5 v) {p : Nat} (hp : p < 6) {t : Nat × (Nat → Int32)} (hT : cTr σ t.1 t.2) {dp : Nat} (hd : dp ≤ 15) : vm_RI G 1 mX7_given [.ref 0, .int (nI 10), .int (nI p), .int (nI dp)] σ (fun r σ' => r = V_sp v p ∧ cTr σ' (sLvs [10] t).1 (sLvs [10] t).2 ∧ ∀ o, o ≠ 171 → o ≠ 172 → σ' o = σ o) := by
  refine vm_int (y := mX7_given) (by decide) (Nat.le_of_ble_eq_true rfl) (ls0 := [some (.ref 0), some (.int (nI 10)), some (.int (nI p)), some (.int (nI dp)), none]) rfl rfl (fun C F K => ?_)
  have F : vm_F G C cX7_given RX7 5 _ := F
  show vm_Ex G C 5 0 [some (.ref 0), some (.int (nI 10)), some (.int (nI p)), some (.int (nI dp)), none] [] _
  refine q_iload_n F 3 dX7_given_0 rfl rfl ?_
  refine q_bipush F (nI 16) dX7_given_1 (by decide) ?_
  refine n_lt F 8 dX7_given_3 (by decide) (by omega) (by omega) (fun c_3 => ?_) (fun c_3 => ?_)
  · refine q_iload_n F 3 dX7_given_8 rfl rfl ?_
    refine q_iconst F (nI 1) dX7_given_9 (by decide) ?_
    refine n_iadd F dX7_given_10 ?_
    refine q_istore4 F dX7_given_11 (by decide) rfl ?_
    refine q_aload_n F 0 dX7_given_13 rfl rfl ?_
    refine gX7_53 F dX7_given_14 sh_0 rfl ?_
    refine q_iload_n F 1 dX7_given_17 rfl rfl ?_
    refine iX7_263 F dX7_given_18 (c_leave hT (nI 10)) (by decide) sh_171 rfl rfl (Nat.le_of_ble_eq_true rfl) (fun σ_18 h_18 => ?_)
    obtain ⟨t18, f18⟩ := h_18
    have hN2 := hN.fr (fun o a b => f18 o (by omega) (by omega))
    refine q_iload_n F 1 dX7_given_21 rfl rfl ?_
    refine q_tableIn F 96 dX7_given_22 (off := 74) (by decide) (by decide) (by decide) (by decide) ?_
    · refine q_aload_n F 0 dX7_given_96 rfl rfl ?_
      refine gX7_25 F dX7_given_97 sh_0 rfl ?_
      refine gX7_179 F dX7_given_100 path5.1 rfl ?_
      refine q_iload_n F 2 dX7_given_103 rfl rfl ?_
      refine q_iald F dX7_given_104 path5.2.2.2.1 (by omega) (by decide) ?_
      refine q_top (.int (V_sp v p)) (congrArg Value.int (hN2.sp p)) ?_
      refine K _ _ _ _ ?_ dX7_given_105 rfl
      exact ⟨rfl, t18, fun o a b => f18 o a b⟩
  · omega
set_option maxHeartbeats 4000000 in
set_option maxRecDepth 100000 in
theorem c_g20 {G : vm_G} {σ : vm_M} {v : vm_V} (hN : isP σ 5 v) {p : Nat} (hp : p < 6) {t : Nat × (Nat → Int32)} (hT : cTr σ t.1 t.2) {dp : Nat} (hd : dp ≤ 15) : vm_RI G 1 mX7_given [.ref 0, .int (nI 20), .int (nI p), .int (nI dp)] σ (fun r σ' => r = nI p ∧ cTr σ' (sLvs [20] t).1 (sLvs [20] t).2 ∧ ∀ o, o ≠ 171 → o ≠ 172 → σ' o = σ o) := by
  refine vm_int (y := mX7_given) (by decide) (Nat.le_of_ble_eq_true rfl) (ls0 := [some (.ref 0), some (.int (nI 20)), some (.int (nI p)), some (.int (nI dp)), none]) rfl rfl (fun C F K => ?_)
  have F : vm_F G C cX7_given RX7 5 _ := F
  show vm_Ex G C 5 0 [some (.ref 0), some (.int (nI 20)), some (.int (nI p)), some (.int (nI dp)), none] [] _
  refine q_iload_n F 3 dX7_given_0 rfl rfl ?_
  refine q_bipush F (nI 16) dX7_given_1 (by decide) ?_
  refine n_lt F 8 dX7_given_3 (by decide) (by omega) (by omega) (fun c_3 => ?_) (fun c_3 => ?_)
  · refine q_iload_n F 3 dX7_given_8 rfl rfl ?_
    refine q_iconst F (nI 1) dX7_given_9 (by decide) ?_
    refine n_iadd F dX7_given_10 ?_
    refine q_istore4 F dX7_given_11 (by decide) rfl ?_
    refine q_aload_n F 0 dX7_given_13 rfl rfl ?_
    refine gX7_53 F dX7_given_14 sh_0 rfl ?_
    refine q_iload_n F 1 dX7_given_17 rfl rfl ?_
    refine iX7_263 F dX7_given_18 (c_leave hT (nI 20)) (by decide) sh_171 rfl rfl (Nat.le_of_ble_eq_true rfl) (fun σ_18 h_18 => ?_)
    obtain ⟨t18, f18⟩ := h_18
    have hN2 := hN.fr (fun o a b => f18 o (by omega) (by omega))
    refine q_iload_n F 1 dX7_given_21 rfl rfl ?_
    refine q_tableIn F 161 dX7_given_22 (off := 139) (by decide) (by decide) (by decide) (by decide) ?_
    · refine q_iload_n F 2 dX7_given_161 rfl rfl ?_
      refine K _ _ _ _ ?_ dX7_given_162 rfl
      exact ⟨rfl, t18, fun o a b => f18 o a b⟩
  · omega
set_option maxHeartbeats 4000000 in
set_option maxRecDepth 100000 in
theorem c_g21 {G : vm_G} {σ : vm_M} {v : vm_V} (hN : isP σ 5 v) {p : Nat} (hp : p < 6) {t : Nat × (Nat → Int32)} (hT : cTr σ t.1 t.2) {dp : Nat} (hd : dp ≤ 14) : vm_RI G 2 mX7_given [.ref 0, .int (nI 21), .int (nI p), .int (nI dp)] σ (fun r σ' => r = nI p + nI (V_er v p) ∧ cTr σ' (sLvs [21, 20] t).1 (sLvs [21, 20] t).2 ∧ ∀ o, o ≠ 171 → o ≠ 172 → σ' o = σ o) := by
  refine vm_int (y := mX7_given) (by decide) (Nat.le_of_ble_eq_true rfl) (ls0 := [some (.ref 0), some (.int (nI 21)), some (.int (nI p)), some (.int (nI dp)), none]) rfl rfl (fun C F K => ?_)
  have F : vm_F G C cX7_given RX7 5 _ := F
  show vm_Ex G C 5 0 [some (.ref 0), some (.int (nI 21)), some (.int (nI p)), some (.int (nI dp)), none] [] _
  refine q_iload_n F 3 dX7_given_0 rfl rfl ?_
  refine q_bipush F (nI 16) dX7_given_1 (by decide) ?_
  refine n_lt F 8 dX7_given_3 (by decide) (by omega) (by omega) (fun c_3 => ?_) (fun c_3 => ?_)
  · refine q_iload_n F 3 dX7_given_8 rfl rfl ?_
    refine q_iconst F (nI 1) dX7_given_9 (by decide) ?_
    refine n_iadd F dX7_given_10 ?_
    refine q_istore4 F dX7_given_11 (by decide) rfl ?_
    refine q_aload_n F 0 dX7_given_13 rfl rfl ?_
    refine gX7_53 F dX7_given_14 sh_0 rfl ?_
    refine q_iload_n F 1 dX7_given_17 rfl rfl ?_
    refine iX7_263 F dX7_given_18 (c_leave hT (nI 21)) (by decide) sh_171 rfl rfl (Nat.le_of_ble_eq_true rfl) (fun σ_18 h_18 => ?_)
    obtain ⟨t18, f18⟩ := h_18
    have hN2 := hN.fr (fun o a b => f18 o (by omega) (by omega))
    refine q_iload_n F 1 dX7_given_21 rfl rfl ?_
    refine q_tableIn F 163 dX7_given_22 (off := 141) (by decide) (by decide) (by decide) (by decide) ?_
    · refine q_aload_n F 0 dX7_given_163 rfl rfl ?_
      refine q_bipush F (nI 20) dX7_given_164 (by decide) ?_
      refine q_iload_n F 2 dX7_given_166 rfl rfl ?_
      refine q_iload F 4 dX7_given_167 rfl ?_
      refine iX7_260 F dX7_given_169 (c_g20 hN2 hp t18 (by omega)) (by decide) sh_0 rfl rfl (Nat.le_of_ble_eq_true rfl) (fun v_169 σ_169 h_169 => ?_)
      obtain ⟨rfl, t169, f169⟩ := h_169
      have hNe := hN2.fr (fun o a b => f169 o (by omega) (by omega))
      refine q_aload_n F 0 dX7_given_172 rfl rfl ?_
      refine gX7_25 F dX7_given_173 sh_0 rfl ?_
      refine gX7_266 F dX7_given_176 path5.1 rfl ?_
      refine q_iload_n F 2 dX7_given_179 rfl rfl ?_
      refine q_iald F dX7_given_180 path5.2.2.2.2.2 (by omega) (by decide) ?_
      refine q_top (.int (nI (V_er v p))) (congrArg Value.int (hNe.er p)) ?_
      refine q_iadd F dX7_given_181 ?_
      refine K _ _ _ _ ?_ dX7_given_182 rfl
      exact ⟨rfl, t169, fun o a b => (f169 o a b).trans (f18 o a b)⟩
  · omega
set_option maxHeartbeats 4000000 in
set_option maxRecDepth 100000 in
theorem c_g24 {G : vm_G} {σ : vm_M} {v : vm_V} (hN : isP σ 5 v) {p : Nat} (hp : p < 6) {t : Nat × (Nat → Int32)} (hT : cTr σ t.1 t.2) {dp : Nat} (hd : dp ≤ 13) : vm_RI G 3 mX7_given [.ref 0, .int (nI 24), .int (nI p), .int (nI dp)] σ (fun r σ' => r = nI 2 * (nI p + nI (V_er v p)) ∧ cTr σ' (sLvs [24, 21, 20] t).1 (sLvs [24, 21, 20] t).2 ∧ ∀ o, o ≠ 171 → o ≠ 172 → σ' o = σ o) := by
  refine vm_int (y := mX7_given) (by decide) (Nat.le_of_ble_eq_true rfl) (ls0 := [some (.ref 0), some (.int (nI 24)), some (.int (nI p)), some (.int (nI dp)), none]) rfl rfl (fun C F K => ?_)
  have F : vm_F G C cX7_given RX7 5 _ := F
  show vm_Ex G C 5 0 [some (.ref 0), some (.int (nI 24)), some (.int (nI p)), some (.int (nI dp)), none] [] _
  refine q_iload_n F 3 dX7_given_0 rfl rfl ?_
  refine q_bipush F (nI 16) dX7_given_1 (by decide) ?_
  refine n_lt F 8 dX7_given_3 (by decide) (by omega) (by omega) (fun c_3 => ?_) (fun c_3 => ?_)
  · refine q_iload_n F 3 dX7_given_8 rfl rfl ?_
    refine q_iconst F (nI 1) dX7_given_9 (by decide) ?_
    refine n_iadd F dX7_given_10 ?_
    refine q_istore4 F dX7_given_11 (by decide) rfl ?_
    refine q_aload_n F 0 dX7_given_13 rfl rfl ?_
    refine gX7_53 F dX7_given_14 sh_0 rfl ?_
    refine q_iload_n F 1 dX7_given_17 rfl rfl ?_
    refine iX7_263 F dX7_given_18 (c_leave hT (nI 24)) (by decide) sh_171 rfl rfl (Nat.le_of_ble_eq_true rfl) (fun σ_18 h_18 => ?_)
    obtain ⟨t18, f18⟩ := h_18
    have hN2 := hN.fr (fun o a b => f18 o (by omega) (by omega))
    refine q_iload_n F 1 dX7_given_21 rfl rfl ?_
    refine q_tableIn F 216 dX7_given_22 (off := 194) (by decide) (by decide) (by decide) (by decide) ?_
    · refine q_iconst F (nI 2) dX7_given_216 (by decide) ?_
      refine q_aload_n F 0 dX7_given_217 rfl rfl ?_
      refine q_bipush F (nI 21) dX7_given_218 (by decide) ?_
      refine q_iload_n F 2 dX7_given_220 rfl rfl ?_
      refine q_iload F 4 dX7_given_221 rfl ?_
      refine iX7_260 F dX7_given_223 (c_g21 hN2 hp t18 (by omega)) (by decide) sh_0 rfl rfl (Nat.le_of_ble_eq_true rfl) (fun v_223 σ_223 h_223 => ?_)
      obtain ⟨rfl, t223, f223⟩ := h_223
      refine q_imul F dX7_given_226 ?_
      refine K _ _ _ _ ?_ dX7_given_227 rfl
      exact ⟨rfl, t223, fun o a b => (f223 o a b).trans (f18 o a b)⟩
  · omega
set_option maxHeartbeats 4000000 in
set_option maxRecDepth 100000 in
theorem c_g22 {G : vm_G} {σ : vm_M} {v : vm_V} (hN : isP σ 5 v) {p : Nat} (hp : p < 6) {t : Nat × (Nat → Int32)} (hT : cTr σ t.1 t.2) {dp : Nat} (hd : dp ≤ 13) : vm_RI G 3 mX7_given [.ref 0, .int (nI 22), .int (nI p), .int (nI dp)] σ (fun r σ' => r = nI p + nI (V_er v p) - nI 1000 ∧ cTr σ' (sLvs [22, 21, 20] t).1 (sLvs [22, 21, 20] t).2 ∧ ∀ o, o ≠ 171 → o ≠ 172 → σ' o = σ o) := by
  refine vm_int (y := mX7_given) (by decide) (Nat.le_of_ble_eq_true rfl) (ls0 := [some (.ref 0), some (.int (nI 22)), some (.int (nI p)), some (.int (nI dp)), none]) rfl rfl (fun C F K => ?_)
  have F : vm_F G C cX7_given RX7 5 _ := F
  show vm_Ex G C 5 0 [some (.ref 0), some (.int (nI 22)), some (.int (nI p)), some (.int (nI dp)), none] [] _
  refine q_iload_n F 3 dX7_given_0 rfl rfl ?_
  refine q_bipush F (nI 16) dX7_given_1 (by decide) ?_
  refine n_lt F 8 dX7_given_3 (by decide) (by omega) (by omega) (fun c_3 => ?_) (fun c_3 => ?_)
  · refine q_iload_n F 3 dX7_given_8 rfl rfl ?_
    refine q_iconst F (nI 1) dX7_given_9 (by decide) ?_
    refine n_iadd F dX7_given_10 ?_
    refine q_istore4 F dX7_given_11 (by decide) rfl ?_
    refine q_aload_n F 0 dX7_given_13 rfl rfl ?_
    refine gX7_53 F dX7_given_14 sh_0 rfl ?_
    refine q_iload_n F 1 dX7_given_17 rfl rfl ?_
    refine iX7_263 F dX7_given_18 (c_leave hT (nI 22)) (by decide) sh_171 rfl rfl (Nat.le_of_ble_eq_true rfl) (fun σ_18 h_18 => ?_)
    obtain ⟨t18, f18⟩ := h_18
    have hN2 := hN.fr (fun o a b => f18 o (by omega) (by omega))
    refine q_iload_n F 1 dX7_given_21 rfl rfl ?_
    refine q_tableIn F 183 dX7_given_22 (off := 161) (by decide) (by decide) (by decide) (by decide) ?_
    · refine q_aload_n F 0 dX7_given_183 rfl rfl ?_
      refine q_bipush F (nI 21) dX7_given_184 (by decide) ?_
      refine q_iload_n F 2 dX7_given_186 rfl rfl ?_
      refine q_iload F 4 dX7_given_187 rfl ?_
      refine iX7_260 F dX7_given_189 (c_g21 hN2 hp t18 (by omega)) (by decide) sh_0 rfl rfl (Nat.le_of_ble_eq_true rfl) (fun v_189 σ_189 h_189 => ?_)
      obtain ⟨rfl, t189, f189⟩ := h_189
      refine q_sipush F (nI 1000) dX7_given_192 (by decide) ?_
      refine q_isub F dX7_given_195 ?_
      refine K _ _ _ _ ?_ dX7_given_196 rfl
      exact ⟨rfl, t189, fun o a b => (f189 o a b).trans (f18 o a b)⟩
  · omega
set_option maxHeartbeats 4000000 in
set_option maxRecDepth 100000 in
theorem c_g13 {G : vm_G} {σ : vm_M} {v : vm_V} (hN : isP σ 5 v) {p : Nat} (hp : p < 6) {t : Nat × (Nat → Int32)} (hT : cTr σ t.1 t.2) {dp : Nat} (hd : dp ≤ 14) : vm_RI G 2 mX7_given [.ref 0, .int (nI 13), .int (nI p), .int (nI dp)] σ (fun r σ' => r = V_sp v p - nI 100 ∧ cTr σ' (sLvs [13, 10] t).1 (sLvs [13, 10] t).2 ∧ ∀ o, o ≠ 171 → o ≠ 172 → σ' o = σ o) := by
  refine vm_int (y := mX7_given) (by decide) (Nat.le_of_ble_eq_true rfl) (ls0 := [some (.ref 0), some (.int (nI 13)), some (.int (nI p)), some (.int (nI dp)), none]) rfl rfl (fun C F K => ?_)
  have F : vm_F G C cX7_given RX7 5 _ := F
  show vm_Ex G C 5 0 [some (.ref 0), some (.int (nI 13)), some (.int (nI p)), some (.int (nI dp)), none] [] _
  refine q_iload_n F 3 dX7_given_0 rfl rfl ?_
  refine q_bipush F (nI 16) dX7_given_1 (by decide) ?_
  refine n_lt F 8 dX7_given_3 (by decide) (by omega) (by omega) (fun c_3 => ?_) (fun c_3 => ?_)
  · refine q_iload_n F 3 dX7_given_8 rfl rfl ?_
    refine q_iconst F (nI 1) dX7_given_9 (by decide) ?_
    refine n_iadd F dX7_given_10 ?_
    refine q_istore4 F dX7_given_11 (by decide) rfl ?_
    refine q_aload_n F 0 dX7_given_13 rfl rfl ?_
    refine gX7_53 F dX7_given_14 sh_0 rfl ?_
    refine q_iload_n F 1 dX7_given_17 rfl rfl ?_
    refine iX7_263 F dX7_given_18 (c_leave hT (nI 13)) (by decide) sh_171 rfl rfl (Nat.le_of_ble_eq_true rfl) (fun σ_18 h_18 => ?_)
    obtain ⟨t18, f18⟩ := h_18
    have hN2 := hN.fr (fun o a b => f18 o (by omega) (by omega))
    refine q_iload_n F 1 dX7_given_21 rfl rfl ?_
    refine q_tableIn F 136 dX7_given_22 (off := 114) (by decide) (by decide) (by decide) (by decide) ?_
    · refine q_aload_n F 0 dX7_given_136 rfl rfl ?_
      refine q_bipush F (nI 10) dX7_given_137 (by decide) ?_
      refine q_iload_n F 2 dX7_given_139 rfl rfl ?_
      refine q_iload F 4 dX7_given_140 rfl ?_
      refine iX7_260 F dX7_given_142 (c_g10 hN2 hp t18 (by omega)) (by decide) sh_0 rfl rfl (Nat.le_of_ble_eq_true rfl) (fun v_142 σ_142 h_142 => ?_)
      obtain ⟨rfl, t142, f142⟩ := h_142
      refine q_bipush F (nI 100) dX7_given_145 (by decide) ?_
      refine q_isub F dX7_given_147 ?_
      refine K _ _ _ _ ?_ dX7_given_148 rfl
      exact ⟨rfl, t142, fun o a b => (f142 o a b).trans (f18 o a b)⟩
  · omega
set_option maxHeartbeats 4000000 in
set_option maxRecDepth 100000 in
theorem c_g14 {G : vm_G} {σ : vm_M} {v : vm_V} (hN : isP σ 5 v) {p : Nat} (hp : p < 6) {t : Nat × (Nat → Int32)} (hT : cTr σ t.1 t.2) {dp : Nat} (hd : dp ≤ 13) : vm_RI G 3 mX7_given [.ref 0, .int (nI 14), .int (nI p), .int (nI dp)] σ (fun r σ' => r = nI 2 * (V_sp v p - nI 100) ∧ cTr σ' (sLvs [14, 13, 10] t).1 (sLvs [14, 13, 10] t).2 ∧ ∀ o, o ≠ 171 → o ≠ 172 → σ' o = σ o) := by
  refine vm_int (y := mX7_given) (by decide) (Nat.le_of_ble_eq_true rfl) (ls0 := [some (.ref 0), some (.int (nI 14)), some (.int (nI p)), some (.int (nI dp)), none]) rfl rfl (fun C F K => ?_)
  have F : vm_F G C cX7_given RX7 5 _ := F
  show vm_Ex G C 5 0 [some (.ref 0), some (.int (nI 14)), some (.int (nI p)), some (.int (nI dp)), none] [] _
  refine q_iload_n F 3 dX7_given_0 rfl rfl ?_
  refine q_bipush F (nI 16) dX7_given_1 (by decide) ?_
  refine n_lt F 8 dX7_given_3 (by decide) (by omega) (by omega) (fun c_3 => ?_) (fun c_3 => ?_)
  · refine q_iload_n F 3 dX7_given_8 rfl rfl ?_
    refine q_iconst F (nI 1) dX7_given_9 (by decide) ?_
    refine n_iadd F dX7_given_10 ?_
    refine q_istore4 F dX7_given_11 (by decide) rfl ?_
    refine q_aload_n F 0 dX7_given_13 rfl rfl ?_
    refine gX7_53 F dX7_given_14 sh_0 rfl ?_
    refine q_iload_n F 1 dX7_given_17 rfl rfl ?_
    refine iX7_263 F dX7_given_18 (c_leave hT (nI 14)) (by decide) sh_171 rfl rfl (Nat.le_of_ble_eq_true rfl) (fun σ_18 h_18 => ?_)
    obtain ⟨t18, f18⟩ := h_18
    have hN2 := hN.fr (fun o a b => f18 o (by omega) (by omega))
    refine q_iload_n F 1 dX7_given_21 rfl rfl ?_
    refine q_tableIn F 149 dX7_given_22 (off := 127) (by decide) (by decide) (by decide) (by decide) ?_
    · refine q_iconst F (nI 2) dX7_given_149 (by decide) ?_
      refine q_aload_n F 0 dX7_given_150 rfl rfl ?_
      refine q_bipush F (nI 13) dX7_given_151 (by decide) ?_
      refine q_iload_n F 2 dX7_given_153 rfl rfl ?_
      refine q_iload F 4 dX7_given_154 rfl ?_
      refine iX7_260 F dX7_given_156 (c_g13 hN2 hp t18 (by omega)) (by decide) sh_0 rfl rfl (Nat.le_of_ble_eq_true rfl) (fun v_156 σ_156 h_156 => ?_)
      obtain ⟨rfl, t156, f156⟩ := h_156
      refine q_imul F dX7_given_159 ?_
      refine K _ _ _ _ ?_ dX7_given_160 rfl
      exact ⟨rfl, t156, fun o a b => (f156 o a b).trans (f18 o a b)⟩
  · omega
set_option maxHeartbeats 4000000 in
set_option maxRecDepth 100000 in
theorem c_aM1 {G : vm_G} {σ : vm_M} {v : vm_V} (hN : isP σ 5 v) {p : Nat} (hp : p < 6) {t : Nat × (Nat → Int32)} (hT : cTr σ t.1 t.2) {dp : Nat} (hd : dp ≤ 14) (hk : V_kd v p = 1) : vm_RI G 3 mX7_asked [.ref 0, .int (nI 1), .int (nI p), .int (nI dp)] σ (fun r σ' => r = nI p + nI (V_er v p) ∧ cTr σ' (sLvs [21, 20] t).1 (sLvs [21, 20] t).2 ∧ ∀ o, o ≠ 171 → o ≠ 172 → σ' o = σ o) := by
  refine vm_int (y := mX7_asked) (by decide) (Nat.le_of_ble_eq_true rfl) (ls0 := [some (.ref 0), some (.int (nI 1)), some (.int (nI p)), some (.int (nI dp)), none]) rfl rfl (fun C F K => ?_)
  have F : vm_F G C cX7_asked RX7 5 _ := F
  show vm_Ex G C 5 0 [some (.ref 0), some (.int (nI 1)), some (.int (nI p)), some (.int (nI dp)), none] [] _
  refine q_iload_n F 1 dX7_asked_0 rfl rfl ?_
  refine z_ne F 10 dX7_asked_1 (by decide) (by omega) (fun c_1 => ?_) (fun c_1 => ?_)
  · refine sX7_253 F dX7_asked_10 ?_
    refine q_astore4 F dX7_asked_13 (by decide) rfl ?_
    refine q_aload_n F 0 dX7_asked_15 rfl rfl ?_
    refine q_aload F 4 dX7_asked_16 rfl ?_
    refine q_aload_n F 0 dX7_asked_18 rfl rfl ?_
    refine gX7_25 F dX7_asked_19 sh_0 rfl ?_
    refine gX7_223 F dX7_asked_22 path5.1 rfl ?_
    refine q_iload_n F 2 dX7_asked_25 rfl rfl ?_
    refine q_iald F dX7_asked_26 path5.2.1 (by omega) (by decide) ?_
    refine q_top (.int (nI (V_kd v p))) (congrArg Value.int (hN.kd p)) ?_
    refine iX7_256 F dX7_asked_27 (c_nearM (show V_kd v p < 6 by omega)) (by decide) rfl rfl (Nat.le_of_ble_eq_true rfl) (fun v_27 σ_27 h_27 => ?_)
    obtain ⟨rfl, rfl⟩ := h_27
    refine q_top (.int (nI 21)) (congrArg Value.int (by rw [hk]; decide)) ?_
    refine q_iload_n F 2 dX7_asked_30 rfl rfl ?_
    refine q_iload_n F 3 dX7_asked_31 rfl rfl ?_
    refine iX7_260 F dX7_asked_32 (c_g21 hN hp hT (by omega)) (by decide) sh_0 rfl rfl (Nat.le_of_ble_eq_true rfl) (fun v_32 σ_32 h_32 => ?_)
    obtain ⟨rfl, t32, f32⟩ := h_32
    refine K _ _ _ _ ?_ dX7_asked_35 rfl
    exact ⟨rfl, t32, f32⟩
  · omega
set_option maxHeartbeats 4000000 in
set_option maxRecDepth 100000 in
theorem c_aM1x {G : vm_G} {σ : vm_M} {v : vm_V} (hN : isP σ 5 v) {p : Nat} (hp : p < 6) {t : Nat × (Nat → Int32)} (hT : cTr σ t.1 t.2) {dp : Nat} (hd : dp ≤ 14) (hk : V_kd v p = 1) : vm_RI G 7 mX7_asked [.ref 0, .int (nI 1), .int (nI p), .int (nI dp)] σ (fun r σ' => r = nI p + nI (V_er v p) ∧ cTr σ' (sLvs [21, 20] t).1 (sLvs [21, 20] t).2 ∧ ∀ o, o ≠ 171 → o ≠ 172 → σ' o = σ o) := by
  refine vm_int (y := mX7_asked) (by decide) (Nat.le_of_ble_eq_true rfl) (ls0 := [some (.ref 0), some (.int (nI 1)), some (.int (nI p)), some (.int (nI dp)), none]) rfl rfl (fun C F K => ?_)
  have F : vm_F G C cX7_asked RX7 5 _ := F
  show vm_Ex G C 5 0 [some (.ref 0), some (.int (nI 1)), some (.int (nI p)), some (.int (nI dp)), none] [] _
  refine q_iload_n F 1 dX7_asked_0 rfl rfl ?_
  refine z_ne F 10 dX7_asked_1 (by decide) (by omega) (fun c_1 => ?_) (fun c_1 => ?_)
  · refine sX7_253 F dX7_asked_10 ?_
    refine q_astore4 F dX7_asked_13 (by decide) rfl ?_
    refine q_aload_n F 0 dX7_asked_15 rfl rfl ?_
    refine q_aload F 4 dX7_asked_16 rfl ?_
    refine q_aload_n F 0 dX7_asked_18 rfl rfl ?_
    refine gX7_25 F dX7_asked_19 sh_0 rfl ?_
    refine gX7_223 F dX7_asked_22 path5.1 rfl ?_
    refine q_iload_n F 2 dX7_asked_25 rfl rfl ?_
    refine q_iald F dX7_asked_26 path5.2.1 (by omega) (by decide) ?_
    refine q_top (.int (nI (V_kd v p))) (congrArg Value.int (hN.kd p)) ?_
    refine iX7_256 F dX7_asked_27 (c_nearM (show V_kd v p < 6 by omega)) (by decide) rfl rfl (Nat.le_of_ble_eq_true rfl) (fun v_27 σ_27 h_27 => ?_)
    obtain ⟨rfl, rfl⟩ := h_27
    refine q_top (.int (nI 21)) (congrArg Value.int (by rw [hk]; decide)) ?_
    refine q_iload_n F 2 dX7_asked_30 rfl rfl ?_
    refine q_iload_n F 3 dX7_asked_31 rfl rfl ?_
    refine iX7_260 F dX7_asked_32 (c_g21 hN hp hT (by omega)) (by decide) sh_0 rfl rfl (Nat.le_of_ble_eq_true rfl) (fun v_32 σ_32 h_32 => ?_)
    obtain ⟨rfl, t32, f32⟩ := h_32
    refine K _ _ _ _ ?_ dX7_asked_35 rfl
    exact ⟨rfl, t32, f32⟩
  · omega
set_option maxHeartbeats 4000000 in
set_option maxRecDepth 100000 in
theorem c_aM2 {G : vm_G} {σ : vm_M} {v : vm_V} (hN : isP σ 5 v) {p : Nat} (hp : p < 6) {t : Nat × (Nat → Int32)} (hT : cTr σ t.1 t.2) {dp : Nat} (hd : dp ≤ 13) (hk : V_kd v p = 2) : vm_RI G 4 mX7_asked [.ref 0, .int (nI 1), .int (nI p), .int (nI dp)] σ (fun r σ' => r = nI 2 * (nI p + nI (V_er v p)) ∧ cTr σ' (sLvs [24, 21, 20] t).1 (sLvs [24, 21, 20] t).2 ∧ ∀ o, o ≠ 171 → o ≠ 172 → σ' o = σ o) := by
  refine vm_int (y := mX7_asked) (by decide) (Nat.le_of_ble_eq_true rfl) (ls0 := [some (.ref 0), some (.int (nI 1)), some (.int (nI p)), some (.int (nI dp)), none]) rfl rfl (fun C F K => ?_)
  have F : vm_F G C cX7_asked RX7 5 _ := F
  show vm_Ex G C 5 0 [some (.ref 0), some (.int (nI 1)), some (.int (nI p)), some (.int (nI dp)), none] [] _
  refine q_iload_n F 1 dX7_asked_0 rfl rfl ?_
  refine z_ne F 10 dX7_asked_1 (by decide) (by omega) (fun c_1 => ?_) (fun c_1 => ?_)
  · refine sX7_253 F dX7_asked_10 ?_
    refine q_astore4 F dX7_asked_13 (by decide) rfl ?_
    refine q_aload_n F 0 dX7_asked_15 rfl rfl ?_
    refine q_aload F 4 dX7_asked_16 rfl ?_
    refine q_aload_n F 0 dX7_asked_18 rfl rfl ?_
    refine gX7_25 F dX7_asked_19 sh_0 rfl ?_
    refine gX7_223 F dX7_asked_22 path5.1 rfl ?_
    refine q_iload_n F 2 dX7_asked_25 rfl rfl ?_
    refine q_iald F dX7_asked_26 path5.2.1 (by omega) (by decide) ?_
    refine q_top (.int (nI (V_kd v p))) (congrArg Value.int (hN.kd p)) ?_
    refine iX7_256 F dX7_asked_27 (c_nearM (show V_kd v p < 6 by omega)) (by decide) rfl rfl (Nat.le_of_ble_eq_true rfl) (fun v_27 σ_27 h_27 => ?_)
    obtain ⟨rfl, rfl⟩ := h_27
    refine q_top (.int (nI 24)) (congrArg Value.int (by rw [hk]; decide)) ?_
    refine q_iload_n F 2 dX7_asked_30 rfl rfl ?_
    refine q_iload_n F 3 dX7_asked_31 rfl rfl ?_
    refine iX7_260 F dX7_asked_32 (c_g24 hN hp hT (by omega)) (by decide) sh_0 rfl rfl (Nat.le_of_ble_eq_true rfl) (fun v_32 σ_32 h_32 => ?_)
    obtain ⟨rfl, t32, f32⟩ := h_32
    refine K _ _ _ _ ?_ dX7_asked_35 rfl
    exact ⟨rfl, t32, f32⟩
  · omega
set_option maxHeartbeats 4000000 in
set_option maxRecDepth 100000 in
theorem c_aM2x {G : vm_G} {σ : vm_M} {v : vm_V} (hN : isP σ 5 v) {p : Nat} (hp : p < 6) {t : Nat × (Nat → Int32)} (hT : cTr σ t.1 t.2) {dp : Nat} (hd : dp ≤ 13) (hk : V_kd v p = 2) : vm_RI G 7 mX7_asked [.ref 0, .int (nI 1), .int (nI p), .int (nI dp)] σ (fun r σ' => r = nI 2 * (nI p + nI (V_er v p)) ∧ cTr σ' (sLvs [24, 21, 20] t).1 (sLvs [24, 21, 20] t).2 ∧ ∀ o, o ≠ 171 → o ≠ 172 → σ' o = σ o) := by
  refine vm_int (y := mX7_asked) (by decide) (Nat.le_of_ble_eq_true rfl) (ls0 := [some (.ref 0), some (.int (nI 1)), some (.int (nI p)), some (.int (nI dp)), none]) rfl rfl (fun C F K => ?_)
  have F : vm_F G C cX7_asked RX7 5 _ := F
  show vm_Ex G C 5 0 [some (.ref 0), some (.int (nI 1)), some (.int (nI p)), some (.int (nI dp)), none] [] _
  refine q_iload_n F 1 dX7_asked_0 rfl rfl ?_
  refine z_ne F 10 dX7_asked_1 (by decide) (by omega) (fun c_1 => ?_) (fun c_1 => ?_)
  · refine sX7_253 F dX7_asked_10 ?_
    refine q_astore4 F dX7_asked_13 (by decide) rfl ?_
    refine q_aload_n F 0 dX7_asked_15 rfl rfl ?_
    refine q_aload F 4 dX7_asked_16 rfl ?_
    refine q_aload_n F 0 dX7_asked_18 rfl rfl ?_
    refine gX7_25 F dX7_asked_19 sh_0 rfl ?_
    refine gX7_223 F dX7_asked_22 path5.1 rfl ?_
    refine q_iload_n F 2 dX7_asked_25 rfl rfl ?_
    refine q_iald F dX7_asked_26 path5.2.1 (by omega) (by decide) ?_
    refine q_top (.int (nI (V_kd v p))) (congrArg Value.int (hN.kd p)) ?_
    refine iX7_256 F dX7_asked_27 (c_nearM (show V_kd v p < 6 by omega)) (by decide) rfl rfl (Nat.le_of_ble_eq_true rfl) (fun v_27 σ_27 h_27 => ?_)
    obtain ⟨rfl, rfl⟩ := h_27
    refine q_top (.int (nI 24)) (congrArg Value.int (by rw [hk]; decide)) ?_
    refine q_iload_n F 2 dX7_asked_30 rfl rfl ?_
    refine q_iload_n F 3 dX7_asked_31 rfl rfl ?_
    refine iX7_260 F dX7_asked_32 (c_g24 hN hp hT (by omega)) (by decide) sh_0 rfl rfl (Nat.le_of_ble_eq_true rfl) (fun v_32 σ_32 h_32 => ?_)
    obtain ⟨rfl, t32, f32⟩ := h_32
    refine K _ _ _ _ ?_ dX7_asked_35 rfl
    exact ⟨rfl, t32, f32⟩
  · omega
set_option maxHeartbeats 4000000 in
set_option maxRecDepth 100000 in
theorem c_aM3 {G : vm_G} {σ : vm_M} {v : vm_V} (hN : isP σ 5 v) {p : Nat} (hp : p < 6) {t : Nat × (Nat → Int32)} (hT : cTr σ t.1 t.2) {dp : Nat} (hd : dp ≤ 13) (hk : V_kd v p = 3) : vm_RI G 4 mX7_asked [.ref 0, .int (nI 1), .int (nI p), .int (nI dp)] σ (fun r σ' => r = nI p + nI (V_er v p) - nI 1000 ∧ cTr σ' (sLvs [22, 21, 20] t).1 (sLvs [22, 21, 20] t).2 ∧ ∀ o, o ≠ 171 → o ≠ 172 → σ' o = σ o) := by
  refine vm_int (y := mX7_asked) (by decide) (Nat.le_of_ble_eq_true rfl) (ls0 := [some (.ref 0), some (.int (nI 1)), some (.int (nI p)), some (.int (nI dp)), none]) rfl rfl (fun C F K => ?_)
  have F : vm_F G C cX7_asked RX7 5 _ := F
  show vm_Ex G C 5 0 [some (.ref 0), some (.int (nI 1)), some (.int (nI p)), some (.int (nI dp)), none] [] _
  refine q_iload_n F 1 dX7_asked_0 rfl rfl ?_
  refine z_ne F 10 dX7_asked_1 (by decide) (by omega) (fun c_1 => ?_) (fun c_1 => ?_)
  · refine sX7_253 F dX7_asked_10 ?_
    refine q_astore4 F dX7_asked_13 (by decide) rfl ?_
    refine q_aload_n F 0 dX7_asked_15 rfl rfl ?_
    refine q_aload F 4 dX7_asked_16 rfl ?_
    refine q_aload_n F 0 dX7_asked_18 rfl rfl ?_
    refine gX7_25 F dX7_asked_19 sh_0 rfl ?_
    refine gX7_223 F dX7_asked_22 path5.1 rfl ?_
    refine q_iload_n F 2 dX7_asked_25 rfl rfl ?_
    refine q_iald F dX7_asked_26 path5.2.1 (by omega) (by decide) ?_
    refine q_top (.int (nI (V_kd v p))) (congrArg Value.int (hN.kd p)) ?_
    refine iX7_256 F dX7_asked_27 (c_nearM (show V_kd v p < 6 by omega)) (by decide) rfl rfl (Nat.le_of_ble_eq_true rfl) (fun v_27 σ_27 h_27 => ?_)
    obtain ⟨rfl, rfl⟩ := h_27
    refine q_top (.int (nI 22)) (congrArg Value.int (by rw [hk]; decide)) ?_
    refine q_iload_n F 2 dX7_asked_30 rfl rfl ?_
    refine q_iload_n F 3 dX7_asked_31 rfl rfl ?_
    refine iX7_260 F dX7_asked_32 (c_g22 hN hp hT (by omega)) (by decide) sh_0 rfl rfl (Nat.le_of_ble_eq_true rfl) (fun v_32 σ_32 h_32 => ?_)
    obtain ⟨rfl, t32, f32⟩ := h_32
    refine K _ _ _ _ ?_ dX7_asked_35 rfl
    exact ⟨rfl, t32, f32⟩
  · omega
set_option maxHeartbeats 4000000 in
set_option maxRecDepth 100000 in
theorem c_aM3x {G : vm_G} {σ : vm_M} {v : vm_V} (hN : isP σ 5 v) {p : Nat} (hp : p < 6) {t : Nat × (Nat → Int32)} (hT : cTr σ t.1 t.2) {dp : Nat} (hd : dp ≤ 13) (hk : V_kd v p = 3) : vm_RI G 7 mX7_asked [.ref 0, .int (nI 1), .int (nI p), .int (nI dp)] σ (fun r σ' => r = nI p + nI (V_er v p) - nI 1000 ∧ cTr σ' (sLvs [22, 21, 20] t).1 (sLvs [22, 21, 20] t).2 ∧ ∀ o, o ≠ 171 → o ≠ 172 → σ' o = σ o) := by
  refine vm_int (y := mX7_asked) (by decide) (Nat.le_of_ble_eq_true rfl) (ls0 := [some (.ref 0), some (.int (nI 1)), some (.int (nI p)), some (.int (nI dp)), none]) rfl rfl (fun C F K => ?_)
  have F : vm_F G C cX7_asked RX7 5 _ := F
  show vm_Ex G C 5 0 [some (.ref 0), some (.int (nI 1)), some (.int (nI p)), some (.int (nI dp)), none] [] _
  refine q_iload_n F 1 dX7_asked_0 rfl rfl ?_
  refine z_ne F 10 dX7_asked_1 (by decide) (by omega) (fun c_1 => ?_) (fun c_1 => ?_)
  · refine sX7_253 F dX7_asked_10 ?_
    refine q_astore4 F dX7_asked_13 (by decide) rfl ?_
    refine q_aload_n F 0 dX7_asked_15 rfl rfl ?_
    refine q_aload F 4 dX7_asked_16 rfl ?_
    refine q_aload_n F 0 dX7_asked_18 rfl rfl ?_
    refine gX7_25 F dX7_asked_19 sh_0 rfl ?_
    refine gX7_223 F dX7_asked_22 path5.1 rfl ?_
    refine q_iload_n F 2 dX7_asked_25 rfl rfl ?_
    refine q_iald F dX7_asked_26 path5.2.1 (by omega) (by decide) ?_
    refine q_top (.int (nI (V_kd v p))) (congrArg Value.int (hN.kd p)) ?_
    refine iX7_256 F dX7_asked_27 (c_nearM (show V_kd v p < 6 by omega)) (by decide) rfl rfl (Nat.le_of_ble_eq_true rfl) (fun v_27 σ_27 h_27 => ?_)
    obtain ⟨rfl, rfl⟩ := h_27
    refine q_top (.int (nI 22)) (congrArg Value.int (by rw [hk]; decide)) ?_
    refine q_iload_n F 2 dX7_asked_30 rfl rfl ?_
    refine q_iload_n F 3 dX7_asked_31 rfl rfl ?_
    refine iX7_260 F dX7_asked_32 (c_g22 hN hp hT (by omega)) (by decide) sh_0 rfl rfl (Nat.le_of_ble_eq_true rfl) (fun v_32 σ_32 h_32 => ?_)
    obtain ⟨rfl, t32, f32⟩ := h_32
    refine K _ _ _ _ ?_ dX7_asked_35 rfl
    exact ⟨rfl, t32, f32⟩
  · omega
set_option maxHeartbeats 4000000 in
set_option maxRecDepth 100000 in
theorem c_aS4 {G : vm_G} {σ : vm_M} {v : vm_V} (hN : isP σ 5 v) {p : Nat} (hp : p < 6) {t : Nat × (Nat → Int32)} (hT : cTr σ t.1 t.2) {dp : Nat} (hd : dp ≤ 14) (hk : V_kd v p = 4) : vm_RI G 3 mX7_asked [.ref 0, .int (nI 0), .int (nI p), .int (nI dp)] σ (fun r σ' => r = V_sp v p - nI 100 ∧ cTr σ' (sLvs [13, 10] t).1 (sLvs [13, 10] t).2 ∧ ∀ o, o ≠ 171 → o ≠ 172 → σ' o = σ o) := by
  refine vm_int (y := mX7_asked) (by decide) (Nat.le_of_ble_eq_true rfl) (ls0 := [some (.ref 0), some (.int (nI 0)), some (.int (nI p)), some (.int (nI dp)), none]) rfl rfl (fun C F K => ?_)
  have F : vm_F G C cX7_asked RX7 5 _ := F
  show vm_Ex G C 5 0 [some (.ref 0), some (.int (nI 0)), some (.int (nI p)), some (.int (nI dp)), none] [] _
  refine q_iload_n F 1 dX7_asked_0 rfl rfl ?_
  refine z_ne F 10 dX7_asked_1 (by decide) (by omega) (fun c_1 => ?_) (fun c_1 => ?_)
  · omega
  · refine sX7_250 F dX7_asked_4 ?_
    refine q_goto F 13 dX7_asked_7 (by decide) ?_
    refine q_astore4 F dX7_asked_13 (by decide) rfl ?_
    refine q_aload_n F 0 dX7_asked_15 rfl rfl ?_
    refine q_aload F 4 dX7_asked_16 rfl ?_
    refine q_aload_n F 0 dX7_asked_18 rfl rfl ?_
    refine gX7_25 F dX7_asked_19 sh_0 rfl ?_
    refine gX7_223 F dX7_asked_22 path5.1 rfl ?_
    refine q_iload_n F 2 dX7_asked_25 rfl rfl ?_
    refine q_iald F dX7_asked_26 path5.2.1 (by omega) (by decide) ?_
    refine q_top (.int (nI (V_kd v p))) (congrArg Value.int (hN.kd p)) ?_
    refine iX7_256 F dX7_asked_27 (c_nearS (show V_kd v p < 6 by omega)) (by decide) rfl rfl (Nat.le_of_ble_eq_true rfl) (fun v_27 σ_27 h_27 => ?_)
    obtain ⟨rfl, rfl⟩ := h_27
    refine q_top (.int (nI 13)) (congrArg Value.int (by rw [hk]; decide)) ?_
    refine q_iload_n F 2 dX7_asked_30 rfl rfl ?_
    refine q_iload_n F 3 dX7_asked_31 rfl rfl ?_
    refine iX7_260 F dX7_asked_32 (c_g13 hN hp hT (by omega)) (by decide) sh_0 rfl rfl (Nat.le_of_ble_eq_true rfl) (fun v_32 σ_32 h_32 => ?_)
    obtain ⟨rfl, t32, f32⟩ := h_32
    refine K _ _ _ _ ?_ dX7_asked_35 rfl
    exact ⟨rfl, t32, f32⟩
set_option maxHeartbeats 4000000 in
set_option maxRecDepth 100000 in
theorem c_aS4x {G : vm_G} {σ : vm_M} {v : vm_V} (hN : isP σ 5 v) {p : Nat} (hp : p < 6) {t : Nat × (Nat → Int32)} (hT : cTr σ t.1 t.2) {dp : Nat} (hd : dp ≤ 14) (hk : V_kd v p = 4) : vm_RI G 7 mX7_asked [.ref 0, .int (nI 0), .int (nI p), .int (nI dp)] σ (fun r σ' => r = V_sp v p - nI 100 ∧ cTr σ' (sLvs [13, 10] t).1 (sLvs [13, 10] t).2 ∧ ∀ o, o ≠ 171 → o ≠ 172 → σ' o = σ o) := by
  refine vm_int (y := mX7_asked) (by decide) (Nat.le_of_ble_eq_true rfl) (ls0 := [some (.ref 0), some (.int (nI 0)), some (.int (nI p)), some (.int (nI dp)), none]) rfl rfl (fun C F K => ?_)
  have F : vm_F G C cX7_asked RX7 5 _ := F
  show vm_Ex G C 5 0 [some (.ref 0), some (.int (nI 0)), some (.int (nI p)), some (.int (nI dp)), none] [] _
  refine q_iload_n F 1 dX7_asked_0 rfl rfl ?_
  refine z_ne F 10 dX7_asked_1 (by decide) (by omega) (fun c_1 => ?_) (fun c_1 => ?_)
  · omega
  · refine sX7_250 F dX7_asked_4 ?_
    refine q_goto F 13 dX7_asked_7 (by decide) ?_
    refine q_astore4 F dX7_asked_13 (by decide) rfl ?_
    refine q_aload_n F 0 dX7_asked_15 rfl rfl ?_
    refine q_aload F 4 dX7_asked_16 rfl ?_
    refine q_aload_n F 0 dX7_asked_18 rfl rfl ?_
    refine gX7_25 F dX7_asked_19 sh_0 rfl ?_
    refine gX7_223 F dX7_asked_22 path5.1 rfl ?_
    refine q_iload_n F 2 dX7_asked_25 rfl rfl ?_
    refine q_iald F dX7_asked_26 path5.2.1 (by omega) (by decide) ?_
    refine q_top (.int (nI (V_kd v p))) (congrArg Value.int (hN.kd p)) ?_
    refine iX7_256 F dX7_asked_27 (c_nearS (show V_kd v p < 6 by omega)) (by decide) rfl rfl (Nat.le_of_ble_eq_true rfl) (fun v_27 σ_27 h_27 => ?_)
    obtain ⟨rfl, rfl⟩ := h_27
    refine q_top (.int (nI 13)) (congrArg Value.int (by rw [hk]; decide)) ?_
    refine q_iload_n F 2 dX7_asked_30 rfl rfl ?_
    refine q_iload_n F 3 dX7_asked_31 rfl rfl ?_
    refine iX7_260 F dX7_asked_32 (c_g13 hN hp hT (by omega)) (by decide) sh_0 rfl rfl (Nat.le_of_ble_eq_true rfl) (fun v_32 σ_32 h_32 => ?_)
    obtain ⟨rfl, t32, f32⟩ := h_32
    refine K _ _ _ _ ?_ dX7_asked_35 rfl
    exact ⟨rfl, t32, f32⟩
set_option maxHeartbeats 4000000 in
set_option maxRecDepth 100000 in
theorem c_aS5 {G : vm_G} {σ : vm_M} {v : vm_V} (hN : isP σ 5 v) {p : Nat} (hp : p < 6) {t : Nat × (Nat → Int32)} (hT : cTr σ t.1 t.2) {dp : Nat} (hd : dp ≤ 13) (hk : V_kd v p = 5) : vm_RI G 4 mX7_asked [.ref 0, .int (nI 0), .int (nI p), .int (nI dp)] σ (fun r σ' => r = nI 2 * (V_sp v p - nI 100) ∧ cTr σ' (sLvs [14, 13, 10] t).1 (sLvs [14, 13, 10] t).2 ∧ ∀ o, o ≠ 171 → o ≠ 172 → σ' o = σ o) := by
  refine vm_int (y := mX7_asked) (by decide) (Nat.le_of_ble_eq_true rfl) (ls0 := [some (.ref 0), some (.int (nI 0)), some (.int (nI p)), some (.int (nI dp)), none]) rfl rfl (fun C F K => ?_)
  have F : vm_F G C cX7_asked RX7 5 _ := F
  show vm_Ex G C 5 0 [some (.ref 0), some (.int (nI 0)), some (.int (nI p)), some (.int (nI dp)), none] [] _
  refine q_iload_n F 1 dX7_asked_0 rfl rfl ?_
  refine z_ne F 10 dX7_asked_1 (by decide) (by omega) (fun c_1 => ?_) (fun c_1 => ?_)
  · omega
  · refine sX7_250 F dX7_asked_4 ?_
    refine q_goto F 13 dX7_asked_7 (by decide) ?_
    refine q_astore4 F dX7_asked_13 (by decide) rfl ?_
    refine q_aload_n F 0 dX7_asked_15 rfl rfl ?_
    refine q_aload F 4 dX7_asked_16 rfl ?_
    refine q_aload_n F 0 dX7_asked_18 rfl rfl ?_
    refine gX7_25 F dX7_asked_19 sh_0 rfl ?_
    refine gX7_223 F dX7_asked_22 path5.1 rfl ?_
    refine q_iload_n F 2 dX7_asked_25 rfl rfl ?_
    refine q_iald F dX7_asked_26 path5.2.1 (by omega) (by decide) ?_
    refine q_top (.int (nI (V_kd v p))) (congrArg Value.int (hN.kd p)) ?_
    refine iX7_256 F dX7_asked_27 (c_nearS (show V_kd v p < 6 by omega)) (by decide) rfl rfl (Nat.le_of_ble_eq_true rfl) (fun v_27 σ_27 h_27 => ?_)
    obtain ⟨rfl, rfl⟩ := h_27
    refine q_top (.int (nI 14)) (congrArg Value.int (by rw [hk]; decide)) ?_
    refine q_iload_n F 2 dX7_asked_30 rfl rfl ?_
    refine q_iload_n F 3 dX7_asked_31 rfl rfl ?_
    refine iX7_260 F dX7_asked_32 (c_g14 hN hp hT (by omega)) (by decide) sh_0 rfl rfl (Nat.le_of_ble_eq_true rfl) (fun v_32 σ_32 h_32 => ?_)
    obtain ⟨rfl, t32, f32⟩ := h_32
    refine K _ _ _ _ ?_ dX7_asked_35 rfl
    exact ⟨rfl, t32, f32⟩
set_option maxHeartbeats 4000000 in
set_option maxRecDepth 100000 in
theorem c_aS5x {G : vm_G} {σ : vm_M} {v : vm_V} (hN : isP σ 5 v) {p : Nat} (hp : p < 6) {t : Nat × (Nat → Int32)} (hT : cTr σ t.1 t.2) {dp : Nat} (hd : dp ≤ 13) (hk : V_kd v p = 5) : vm_RI G 7 mX7_asked [.ref 0, .int (nI 0), .int (nI p), .int (nI dp)] σ (fun r σ' => r = nI 2 * (V_sp v p - nI 100) ∧ cTr σ' (sLvs [14, 13, 10] t).1 (sLvs [14, 13, 10] t).2 ∧ ∀ o, o ≠ 171 → o ≠ 172 → σ' o = σ o) := by
  refine vm_int (y := mX7_asked) (by decide) (Nat.le_of_ble_eq_true rfl) (ls0 := [some (.ref 0), some (.int (nI 0)), some (.int (nI p)), some (.int (nI dp)), none]) rfl rfl (fun C F K => ?_)
  have F : vm_F G C cX7_asked RX7 5 _ := F
  show vm_Ex G C 5 0 [some (.ref 0), some (.int (nI 0)), some (.int (nI p)), some (.int (nI dp)), none] [] _
  refine q_iload_n F 1 dX7_asked_0 rfl rfl ?_
  refine z_ne F 10 dX7_asked_1 (by decide) (by omega) (fun c_1 => ?_) (fun c_1 => ?_)
  · omega
  · refine sX7_250 F dX7_asked_4 ?_
    refine q_goto F 13 dX7_asked_7 (by decide) ?_
    refine q_astore4 F dX7_asked_13 (by decide) rfl ?_
    refine q_aload_n F 0 dX7_asked_15 rfl rfl ?_
    refine q_aload F 4 dX7_asked_16 rfl ?_
    refine q_aload_n F 0 dX7_asked_18 rfl rfl ?_
    refine gX7_25 F dX7_asked_19 sh_0 rfl ?_
    refine gX7_223 F dX7_asked_22 path5.1 rfl ?_
    refine q_iload_n F 2 dX7_asked_25 rfl rfl ?_
    refine q_iald F dX7_asked_26 path5.2.1 (by omega) (by decide) ?_
    refine q_top (.int (nI (V_kd v p))) (congrArg Value.int (hN.kd p)) ?_
    refine iX7_256 F dX7_asked_27 (c_nearS (show V_kd v p < 6 by omega)) (by decide) rfl rfl (Nat.le_of_ble_eq_true rfl) (fun v_27 σ_27 h_27 => ?_)
    obtain ⟨rfl, rfl⟩ := h_27
    refine q_top (.int (nI 14)) (congrArg Value.int (by rw [hk]; decide)) ?_
    refine q_iload_n F 2 dX7_asked_30 rfl rfl ?_
    refine q_iload_n F 3 dX7_asked_31 rfl rfl ?_
    refine iX7_260 F dX7_asked_32 (c_g14 hN hp hT (by omega)) (by decide) sh_0 rfl rfl (Nat.le_of_ble_eq_true rfl) (fun v_32 σ_32 h_32 => ?_)
    obtain ⟨rfl, t32, f32⟩ := h_32
    refine K _ _ _ _ ?_ dX7_asked_35 rfl
    exact ⟨rfl, t32, f32⟩
set_option maxHeartbeats 4000000 in
set_option maxRecDepth 100000 in
theorem c_g11k1 {G : vm_G} {σ : vm_M} {v : vm_V} (hN : isP σ 5 v) {p : Nat} (hp : p < 6) {t : Nat × (Nat → Int32)} (hT : cTr σ t.1 t.2) {dp : Nat} (hd : dp ≤ 12) (hk : V_kd v p = 1) : vm_RI G 5 mX7_given [.ref 0, .int (nI 11), .int (nI p), .int (nI dp)] σ (fun r σ' => r = V_sp v p + (nI p + nI (V_er v p)) ∧ cTr σ' (sLvs [11, 10, 21, 20] t).1 (sLvs [11, 10, 21, 20] t).2 ∧ ∀ o, o ≠ 171 → o ≠ 172 → σ' o = σ o) := by
  refine vm_int (y := mX7_given) (by decide) (Nat.le_of_ble_eq_true rfl) (ls0 := [some (.ref 0), some (.int (nI 11)), some (.int (nI p)), some (.int (nI dp)), none]) rfl rfl (fun C F K => ?_)
  have F : vm_F G C cX7_given RX7 5 _ := F
  show vm_Ex G C 5 0 [some (.ref 0), some (.int (nI 11)), some (.int (nI p)), some (.int (nI dp)), none] [] _
  refine q_iload_n F 3 dX7_given_0 rfl rfl ?_
  refine q_bipush F (nI 16) dX7_given_1 (by decide) ?_
  refine n_lt F 8 dX7_given_3 (by decide) (by omega) (by omega) (fun c_3 => ?_) (fun c_3 => ?_)
  · refine q_iload_n F 3 dX7_given_8 rfl rfl ?_
    refine q_iconst F (nI 1) dX7_given_9 (by decide) ?_
    refine n_iadd F dX7_given_10 ?_
    refine q_istore4 F dX7_given_11 (by decide) rfl ?_
    refine q_aload_n F 0 dX7_given_13 rfl rfl ?_
    refine gX7_53 F dX7_given_14 sh_0 rfl ?_
    refine q_iload_n F 1 dX7_given_17 rfl rfl ?_
    refine iX7_263 F dX7_given_18 (c_leave hT (nI 11)) (by decide) sh_171 rfl rfl (Nat.le_of_ble_eq_true rfl) (fun σ_18 h_18 => ?_)
    obtain ⟨t18, f18⟩ := h_18
    have hN2 := hN.fr (fun o a b => f18 o (by omega) (by omega))
    refine q_iload_n F 1 dX7_given_21 rfl rfl ?_
    refine q_tableIn F 106 dX7_given_22 (off := 84) (by decide) (by decide) (by decide) (by decide) ?_
    · refine q_aload_n F 0 dX7_given_106 rfl rfl ?_
      refine q_bipush F (nI 10) dX7_given_107 (by decide) ?_
      refine q_iload_n F 2 dX7_given_109 rfl rfl ?_
      refine q_iload F 4 dX7_given_110 rfl ?_
      refine iX7_260 F dX7_given_112 (c_g10 hN2 hp t18 (by omega)) (by decide) sh_0 rfl rfl (Nat.le_of_ble_eq_true rfl) (fun v_112 σ_112 h_112 => ?_)
      obtain ⟨rfl, t1, f1⟩ := h_112
      have hN3 := hN2.fr (fun o a b => f1 o (by omega) (by omega))
      refine q_aload_n F 0 dX7_given_115 rfl rfl ?_
      refine q_iconst F (nI 1) dX7_given_116 (by decide) ?_
      refine q_iload_n F 2 dX7_given_117 rfl rfl ?_
      refine q_iload F 4 dX7_given_118 rfl ?_
      refine iX7_230 F dX7_given_120 (c_aM1 hN3 hp t1 (by omega) hk) (by decide) sh_0 rfl rfl (Nat.le_of_ble_eq_true rfl) (fun v_120 σ_120 h_120 => ?_)
      obtain ⟨rfl, t2, f2⟩ := h_120
      refine q_iadd F dX7_given_123 ?_
      refine K _ _ _ _ ?_ dX7_given_124 rfl
      exact ⟨rfl, t2, fun o a b => (f2 o a b).trans ((f1 o a b).trans (f18 o a b))⟩
  · omega
set_option maxHeartbeats 4000000 in
set_option maxRecDepth 100000 in
theorem c_g11k2 {G : vm_G} {σ : vm_M} {v : vm_V} (hN : isP σ 5 v) {p : Nat} (hp : p < 6) {t : Nat × (Nat → Int32)} (hT : cTr σ t.1 t.2) {dp : Nat} (hd : dp ≤ 12) (hk : V_kd v p = 2) : vm_RI G 5 mX7_given [.ref 0, .int (nI 11), .int (nI p), .int (nI dp)] σ (fun r σ' => r = V_sp v p + (nI 2 * (nI p + nI (V_er v p))) ∧ cTr σ' (sLvs [11, 10, 24, 21, 20] t).1 (sLvs [11, 10, 24, 21, 20] t).2 ∧ ∀ o, o ≠ 171 → o ≠ 172 → σ' o = σ o) := by
  refine vm_int (y := mX7_given) (by decide) (Nat.le_of_ble_eq_true rfl) (ls0 := [some (.ref 0), some (.int (nI 11)), some (.int (nI p)), some (.int (nI dp)), none]) rfl rfl (fun C F K => ?_)
  have F : vm_F G C cX7_given RX7 5 _ := F
  show vm_Ex G C 5 0 [some (.ref 0), some (.int (nI 11)), some (.int (nI p)), some (.int (nI dp)), none] [] _
  refine q_iload_n F 3 dX7_given_0 rfl rfl ?_
  refine q_bipush F (nI 16) dX7_given_1 (by decide) ?_
  refine n_lt F 8 dX7_given_3 (by decide) (by omega) (by omega) (fun c_3 => ?_) (fun c_3 => ?_)
  · refine q_iload_n F 3 dX7_given_8 rfl rfl ?_
    refine q_iconst F (nI 1) dX7_given_9 (by decide) ?_
    refine n_iadd F dX7_given_10 ?_
    refine q_istore4 F dX7_given_11 (by decide) rfl ?_
    refine q_aload_n F 0 dX7_given_13 rfl rfl ?_
    refine gX7_53 F dX7_given_14 sh_0 rfl ?_
    refine q_iload_n F 1 dX7_given_17 rfl rfl ?_
    refine iX7_263 F dX7_given_18 (c_leave hT (nI 11)) (by decide) sh_171 rfl rfl (Nat.le_of_ble_eq_true rfl) (fun σ_18 h_18 => ?_)
    obtain ⟨t18, f18⟩ := h_18
    have hN2 := hN.fr (fun o a b => f18 o (by omega) (by omega))
    refine q_iload_n F 1 dX7_given_21 rfl rfl ?_
    refine q_tableIn F 106 dX7_given_22 (off := 84) (by decide) (by decide) (by decide) (by decide) ?_
    · refine q_aload_n F 0 dX7_given_106 rfl rfl ?_
      refine q_bipush F (nI 10) dX7_given_107 (by decide) ?_
      refine q_iload_n F 2 dX7_given_109 rfl rfl ?_
      refine q_iload F 4 dX7_given_110 rfl ?_
      refine iX7_260 F dX7_given_112 (c_g10 hN2 hp t18 (by omega)) (by decide) sh_0 rfl rfl (Nat.le_of_ble_eq_true rfl) (fun v_112 σ_112 h_112 => ?_)
      obtain ⟨rfl, t1, f1⟩ := h_112
      have hN3 := hN2.fr (fun o a b => f1 o (by omega) (by omega))
      refine q_aload_n F 0 dX7_given_115 rfl rfl ?_
      refine q_iconst F (nI 1) dX7_given_116 (by decide) ?_
      refine q_iload_n F 2 dX7_given_117 rfl rfl ?_
      refine q_iload F 4 dX7_given_118 rfl ?_
      refine iX7_230 F dX7_given_120 (c_aM2 hN3 hp t1 (by omega) hk) (by decide) sh_0 rfl rfl (Nat.le_of_ble_eq_true rfl) (fun v_120 σ_120 h_120 => ?_)
      obtain ⟨rfl, t2, f2⟩ := h_120
      refine q_iadd F dX7_given_123 ?_
      refine K _ _ _ _ ?_ dX7_given_124 rfl
      exact ⟨rfl, t2, fun o a b => (f2 o a b).trans ((f1 o a b).trans (f18 o a b))⟩
  · omega
set_option maxHeartbeats 4000000 in
set_option maxRecDepth 100000 in
theorem c_g11k3 {G : vm_G} {σ : vm_M} {v : vm_V} (hN : isP σ 5 v) {p : Nat} (hp : p < 6) {t : Nat × (Nat → Int32)} (hT : cTr σ t.1 t.2) {dp : Nat} (hd : dp ≤ 12) (hk : V_kd v p = 3) : vm_RI G 5 mX7_given [.ref 0, .int (nI 11), .int (nI p), .int (nI dp)] σ (fun r σ' => r = V_sp v p + (nI p + nI (V_er v p) - nI 1000) ∧ cTr σ' (sLvs [11, 10, 22, 21, 20] t).1 (sLvs [11, 10, 22, 21, 20] t).2 ∧ ∀ o, o ≠ 171 → o ≠ 172 → σ' o = σ o) := by
  refine vm_int (y := mX7_given) (by decide) (Nat.le_of_ble_eq_true rfl) (ls0 := [some (.ref 0), some (.int (nI 11)), some (.int (nI p)), some (.int (nI dp)), none]) rfl rfl (fun C F K => ?_)
  have F : vm_F G C cX7_given RX7 5 _ := F
  show vm_Ex G C 5 0 [some (.ref 0), some (.int (nI 11)), some (.int (nI p)), some (.int (nI dp)), none] [] _
  refine q_iload_n F 3 dX7_given_0 rfl rfl ?_
  refine q_bipush F (nI 16) dX7_given_1 (by decide) ?_
  refine n_lt F 8 dX7_given_3 (by decide) (by omega) (by omega) (fun c_3 => ?_) (fun c_3 => ?_)
  · refine q_iload_n F 3 dX7_given_8 rfl rfl ?_
    refine q_iconst F (nI 1) dX7_given_9 (by decide) ?_
    refine n_iadd F dX7_given_10 ?_
    refine q_istore4 F dX7_given_11 (by decide) rfl ?_
    refine q_aload_n F 0 dX7_given_13 rfl rfl ?_
    refine gX7_53 F dX7_given_14 sh_0 rfl ?_
    refine q_iload_n F 1 dX7_given_17 rfl rfl ?_
    refine iX7_263 F dX7_given_18 (c_leave hT (nI 11)) (by decide) sh_171 rfl rfl (Nat.le_of_ble_eq_true rfl) (fun σ_18 h_18 => ?_)
    obtain ⟨t18, f18⟩ := h_18
    have hN2 := hN.fr (fun o a b => f18 o (by omega) (by omega))
    refine q_iload_n F 1 dX7_given_21 rfl rfl ?_
    refine q_tableIn F 106 dX7_given_22 (off := 84) (by decide) (by decide) (by decide) (by decide) ?_
    · refine q_aload_n F 0 dX7_given_106 rfl rfl ?_
      refine q_bipush F (nI 10) dX7_given_107 (by decide) ?_
      refine q_iload_n F 2 dX7_given_109 rfl rfl ?_
      refine q_iload F 4 dX7_given_110 rfl ?_
      refine iX7_260 F dX7_given_112 (c_g10 hN2 hp t18 (by omega)) (by decide) sh_0 rfl rfl (Nat.le_of_ble_eq_true rfl) (fun v_112 σ_112 h_112 => ?_)
      obtain ⟨rfl, t1, f1⟩ := h_112
      have hN3 := hN2.fr (fun o a b => f1 o (by omega) (by omega))
      refine q_aload_n F 0 dX7_given_115 rfl rfl ?_
      refine q_iconst F (nI 1) dX7_given_116 (by decide) ?_
      refine q_iload_n F 2 dX7_given_117 rfl rfl ?_
      refine q_iload F 4 dX7_given_118 rfl ?_
      refine iX7_230 F dX7_given_120 (c_aM3 hN3 hp t1 (by omega) hk) (by decide) sh_0 rfl rfl (Nat.le_of_ble_eq_true rfl) (fun v_120 σ_120 h_120 => ?_)
      obtain ⟨rfl, t2, f2⟩ := h_120
      refine q_iadd F dX7_given_123 ?_
      refine K _ _ _ _ ?_ dX7_given_124 rfl
      exact ⟨rfl, t2, fun o a b => (f2 o a b).trans ((f1 o a b).trans (f18 o a b))⟩
  · omega
set_option maxHeartbeats 4000000 in
set_option maxRecDepth 100000 in
theorem c_g23k4 {G : vm_G} {σ : vm_M} {v : vm_V} (hN : isP σ 5 v) {p : Nat} (hp : p < 6) {t : Nat × (Nat → Int32)} (hT : cTr σ t.1 t.2) {dp : Nat} (hd : dp ≤ 12) (hk : V_kd v p = 4) : vm_RI G 5 mX7_given [.ref 0, .int (nI 23), .int (nI p), .int (nI dp)] σ (fun r σ' => r = nI p - (V_sp v p - nI 100) ∧ cTr σ' (sLvs [23, 20, 13, 10] t).1 (sLvs [23, 20, 13, 10] t).2 ∧ ∀ o, o ≠ 171 → o ≠ 172 → σ' o = σ o) := by
  refine vm_int (y := mX7_given) (by decide) (Nat.le_of_ble_eq_true rfl) (ls0 := [some (.ref 0), some (.int (nI 23)), some (.int (nI p)), some (.int (nI dp)), none]) rfl rfl (fun C F K => ?_)
  have F : vm_F G C cX7_given RX7 5 _ := F
  show vm_Ex G C 5 0 [some (.ref 0), some (.int (nI 23)), some (.int (nI p)), some (.int (nI dp)), none] [] _
  refine q_iload_n F 3 dX7_given_0 rfl rfl ?_
  refine q_bipush F (nI 16) dX7_given_1 (by decide) ?_
  refine n_lt F 8 dX7_given_3 (by decide) (by omega) (by omega) (fun c_3 => ?_) (fun c_3 => ?_)
  · refine q_iload_n F 3 dX7_given_8 rfl rfl ?_
    refine q_iconst F (nI 1) dX7_given_9 (by decide) ?_
    refine n_iadd F dX7_given_10 ?_
    refine q_istore4 F dX7_given_11 (by decide) rfl ?_
    refine q_aload_n F 0 dX7_given_13 rfl rfl ?_
    refine gX7_53 F dX7_given_14 sh_0 rfl ?_
    refine q_iload_n F 1 dX7_given_17 rfl rfl ?_
    refine iX7_263 F dX7_given_18 (c_leave hT (nI 23)) (by decide) sh_171 rfl rfl (Nat.le_of_ble_eq_true rfl) (fun σ_18 h_18 => ?_)
    obtain ⟨t18, f18⟩ := h_18
    have hN2 := hN.fr (fun o a b => f18 o (by omega) (by omega))
    refine q_iload_n F 1 dX7_given_21 rfl rfl ?_
    refine q_tableIn F 197 dX7_given_22 (off := 175) (by decide) (by decide) (by decide) (by decide) ?_
    · refine q_aload_n F 0 dX7_given_197 rfl rfl ?_
      refine q_bipush F (nI 20) dX7_given_198 (by decide) ?_
      refine q_iload_n F 2 dX7_given_200 rfl rfl ?_
      refine q_iload F 4 dX7_given_201 rfl ?_
      refine iX7_260 F dX7_given_203 (c_g20 hN2 hp t18 (by omega)) (by decide) sh_0 rfl rfl (Nat.le_of_ble_eq_true rfl) (fun v_203 σ_203 h_203 => ?_)
      obtain ⟨rfl, t1, f1⟩ := h_203
      have hN3 := hN2.fr (fun o a b => f1 o (by omega) (by omega))
      refine q_aload_n F 0 dX7_given_206 rfl rfl ?_
      refine q_iconst F (nI 0) dX7_given_207 (by decide) ?_
      refine q_iload_n F 2 dX7_given_208 rfl rfl ?_
      refine q_iload F 4 dX7_given_209 rfl ?_
      refine iX7_230 F dX7_given_211 (c_aS4 hN3 hp t1 (by omega) hk) (by decide) sh_0 rfl rfl (Nat.le_of_ble_eq_true rfl) (fun v_211 σ_211 h_211 => ?_)
      obtain ⟨rfl, t2, f2⟩ := h_211
      refine q_isub F dX7_given_214 ?_
      refine K _ _ _ _ ?_ dX7_given_215 rfl
      exact ⟨rfl, t2, fun o a b => (f2 o a b).trans ((f1 o a b).trans (f18 o a b))⟩
  · omega
set_option maxHeartbeats 4000000 in
set_option maxRecDepth 100000 in
theorem c_g23k5 {G : vm_G} {σ : vm_M} {v : vm_V} (hN : isP σ 5 v) {p : Nat} (hp : p < 6) {t : Nat × (Nat → Int32)} (hT : cTr σ t.1 t.2) {dp : Nat} (hd : dp ≤ 12) (hk : V_kd v p = 5) : vm_RI G 5 mX7_given [.ref 0, .int (nI 23), .int (nI p), .int (nI dp)] σ (fun r σ' => r = nI p - (nI 2 * (V_sp v p - nI 100)) ∧ cTr σ' (sLvs [23, 20, 14, 13, 10] t).1 (sLvs [23, 20, 14, 13, 10] t).2 ∧ ∀ o, o ≠ 171 → o ≠ 172 → σ' o = σ o) := by
  refine vm_int (y := mX7_given) (by decide) (Nat.le_of_ble_eq_true rfl) (ls0 := [some (.ref 0), some (.int (nI 23)), some (.int (nI p)), some (.int (nI dp)), none]) rfl rfl (fun C F K => ?_)
  have F : vm_F G C cX7_given RX7 5 _ := F
  show vm_Ex G C 5 0 [some (.ref 0), some (.int (nI 23)), some (.int (nI p)), some (.int (nI dp)), none] [] _
  refine q_iload_n F 3 dX7_given_0 rfl rfl ?_
  refine q_bipush F (nI 16) dX7_given_1 (by decide) ?_
  refine n_lt F 8 dX7_given_3 (by decide) (by omega) (by omega) (fun c_3 => ?_) (fun c_3 => ?_)
  · refine q_iload_n F 3 dX7_given_8 rfl rfl ?_
    refine q_iconst F (nI 1) dX7_given_9 (by decide) ?_
    refine n_iadd F dX7_given_10 ?_
    refine q_istore4 F dX7_given_11 (by decide) rfl ?_
    refine q_aload_n F 0 dX7_given_13 rfl rfl ?_
    refine gX7_53 F dX7_given_14 sh_0 rfl ?_
    refine q_iload_n F 1 dX7_given_17 rfl rfl ?_
    refine iX7_263 F dX7_given_18 (c_leave hT (nI 23)) (by decide) sh_171 rfl rfl (Nat.le_of_ble_eq_true rfl) (fun σ_18 h_18 => ?_)
    obtain ⟨t18, f18⟩ := h_18
    have hN2 := hN.fr (fun o a b => f18 o (by omega) (by omega))
    refine q_iload_n F 1 dX7_given_21 rfl rfl ?_
    refine q_tableIn F 197 dX7_given_22 (off := 175) (by decide) (by decide) (by decide) (by decide) ?_
    · refine q_aload_n F 0 dX7_given_197 rfl rfl ?_
      refine q_bipush F (nI 20) dX7_given_198 (by decide) ?_
      refine q_iload_n F 2 dX7_given_200 rfl rfl ?_
      refine q_iload F 4 dX7_given_201 rfl ?_
      refine iX7_260 F dX7_given_203 (c_g20 hN2 hp t18 (by omega)) (by decide) sh_0 rfl rfl (Nat.le_of_ble_eq_true rfl) (fun v_203 σ_203 h_203 => ?_)
      obtain ⟨rfl, t1, f1⟩ := h_203
      have hN3 := hN2.fr (fun o a b => f1 o (by omega) (by omega))
      refine q_aload_n F 0 dX7_given_206 rfl rfl ?_
      refine q_iconst F (nI 0) dX7_given_207 (by decide) ?_
      refine q_iload_n F 2 dX7_given_208 rfl rfl ?_
      refine q_iload F 4 dX7_given_209 rfl ?_
      refine iX7_230 F dX7_given_211 (c_aS5 hN3 hp t1 (by omega) hk) (by decide) sh_0 rfl rfl (Nat.le_of_ble_eq_true rfl) (fun v_211 σ_211 h_211 => ?_)
      obtain ⟨rfl, t2, f2⟩ := h_211
      refine q_isub F dX7_given_214 ?_
      refine K _ _ _ _ ?_ dX7_given_215 rfl
      exact ⟨rfl, t2, fun o a b => (f2 o a b).trans ((f1 o a b).trans (f18 o a b))⟩
  · omega
set_option maxHeartbeats 4000000 in
set_option maxRecDepth 100000 in
theorem c_g12 {G : vm_G} {σ : vm_M} {v : vm_V} (hN : isP σ 5 v) {p : Nat} (hp : p < 6) {t : Nat × (Nat → Int32)} (hT : cTr σ t.1 t.2) {dp : Nat} (hd : dp ≤ 11) (hk : V_kd v p = 2) : vm_RI G 6 mX7_given [.ref 0, .int (nI 12), .int (nI p), .int (nI dp)] σ (fun r σ' => r = -(V_sp v p + nI 2 * (nI p + nI (V_er v p))) ∧ cTr σ' (sLvs [12, 11, 10, 24, 21, 20] t).1 (sLvs [12, 11, 10, 24, 21, 20] t).2 ∧ ∀ o, o ≠ 171 → o ≠ 172 → σ' o = σ o) := by
  refine vm_int (y := mX7_given) (by decide) (Nat.le_of_ble_eq_true rfl) (ls0 := [some (.ref 0), some (.int (nI 12)), some (.int (nI p)), some (.int (nI dp)), none]) rfl rfl (fun C F K => ?_)
  have F : vm_F G C cX7_given RX7 5 _ := F
  show vm_Ex G C 5 0 [some (.ref 0), some (.int (nI 12)), some (.int (nI p)), some (.int (nI dp)), none] [] _
  refine q_iload_n F 3 dX7_given_0 rfl rfl ?_
  refine q_bipush F (nI 16) dX7_given_1 (by decide) ?_
  refine n_lt F 8 dX7_given_3 (by decide) (by omega) (by omega) (fun c_3 => ?_) (fun c_3 => ?_)
  · refine q_iload_n F 3 dX7_given_8 rfl rfl ?_
    refine q_iconst F (nI 1) dX7_given_9 (by decide) ?_
    refine n_iadd F dX7_given_10 ?_
    refine q_istore4 F dX7_given_11 (by decide) rfl ?_
    refine q_aload_n F 0 dX7_given_13 rfl rfl ?_
    refine gX7_53 F dX7_given_14 sh_0 rfl ?_
    refine q_iload_n F 1 dX7_given_17 rfl rfl ?_
    refine iX7_263 F dX7_given_18 (c_leave hT (nI 12)) (by decide) sh_171 rfl rfl (Nat.le_of_ble_eq_true rfl) (fun σ_18 h_18 => ?_)
    obtain ⟨t18, f18⟩ := h_18
    have hN2 := hN.fr (fun o a b => f18 o (by omega) (by omega))
    refine q_iload_n F 1 dX7_given_21 rfl rfl ?_
    refine q_tableIn F 125 dX7_given_22 (off := 103) (by decide) (by decide) (by decide) (by decide) ?_
    · refine q_aload_n F 0 dX7_given_125 rfl rfl ?_
      refine q_bipush F (nI 11) dX7_given_126 (by decide) ?_
      refine q_iload_n F 2 dX7_given_128 rfl rfl ?_
      refine q_iload F 4 dX7_given_129 rfl ?_
      refine iX7_260 F dX7_given_131 (c_g11k2 hN2 hp t18 (by omega) hk) (by decide) sh_0 rfl rfl (Nat.le_of_ble_eq_true rfl) (fun v_131 σ_131 h_131 => ?_)
      obtain ⟨rfl, t131, f131⟩ := h_131
      refine q_ineg F dX7_given_134 ?_
      refine K _ _ _ _ ?_ dX7_given_135 rfl
      exact ⟨rfl, t131, fun o a b => (f131 o a b).trans (f18 o a b)⟩
  · omega
set_option maxHeartbeats 4000000 in
set_option maxRecDepth 100000 in
theorem c_aS1 {G : vm_G} {σ : vm_M} {v : vm_V} (hN : isP σ 5 v) {p : Nat} (hp : p < 6) {t : Nat × (Nat → Int32)} (hT : cTr σ t.1 t.2) {dp : Nat} (hd : dp ≤ 12) (hk : V_kd v p = 1) : vm_RI G 7 mX7_asked [.ref 0, .int (nI 0), .int (nI p), .int (nI dp)] σ (fun r σ' => r = V_sp v p + (nI p + nI (V_er v p)) ∧ cTr σ' (sLvs [11, 10, 21, 20] t).1 (sLvs [11, 10, 21, 20] t).2 ∧ ∀ o, o ≠ 171 → o ≠ 172 → σ' o = σ o) := by
  refine vm_int (y := mX7_asked) (by decide) (Nat.le_of_ble_eq_true rfl) (ls0 := [some (.ref 0), some (.int (nI 0)), some (.int (nI p)), some (.int (nI dp)), none]) rfl rfl (fun C F K => ?_)
  have F : vm_F G C cX7_asked RX7 5 _ := F
  show vm_Ex G C 5 0 [some (.ref 0), some (.int (nI 0)), some (.int (nI p)), some (.int (nI dp)), none] [] _
  refine q_iload_n F 1 dX7_asked_0 rfl rfl ?_
  refine z_ne F 10 dX7_asked_1 (by decide) (by omega) (fun c_1 => ?_) (fun c_1 => ?_)
  · omega
  · refine sX7_250 F dX7_asked_4 ?_
    refine q_goto F 13 dX7_asked_7 (by decide) ?_
    refine q_astore4 F dX7_asked_13 (by decide) rfl ?_
    refine q_aload_n F 0 dX7_asked_15 rfl rfl ?_
    refine q_aload F 4 dX7_asked_16 rfl ?_
    refine q_aload_n F 0 dX7_asked_18 rfl rfl ?_
    refine gX7_25 F dX7_asked_19 sh_0 rfl ?_
    refine gX7_223 F dX7_asked_22 path5.1 rfl ?_
    refine q_iload_n F 2 dX7_asked_25 rfl rfl ?_
    refine q_iald F dX7_asked_26 path5.2.1 (by omega) (by decide) ?_
    refine q_top (.int (nI (V_kd v p))) (congrArg Value.int (hN.kd p)) ?_
    refine iX7_256 F dX7_asked_27 (c_nearS (show V_kd v p < 6 by omega)) (by decide) rfl rfl (Nat.le_of_ble_eq_true rfl) (fun v_27 σ_27 h_27 => ?_)
    obtain ⟨rfl, rfl⟩ := h_27
    refine q_top (.int (nI 11)) (congrArg Value.int (by rw [hk]; decide)) ?_
    refine q_iload_n F 2 dX7_asked_30 rfl rfl ?_
    refine q_iload_n F 3 dX7_asked_31 rfl rfl ?_
    refine iX7_260 F dX7_asked_32 (c_g11k1 hN hp hT (by omega) hk) (by decide) sh_0 rfl rfl (Nat.le_of_ble_eq_true rfl) (fun v_32 σ_32 h_32 => ?_)
    obtain ⟨rfl, t32, f32⟩ := h_32
    refine K _ _ _ _ ?_ dX7_asked_35 rfl
    exact ⟨rfl, t32, f32⟩
set_option maxHeartbeats 4000000 in
set_option maxRecDepth 100000 in
theorem c_aS3 {G : vm_G} {σ : vm_M} {v : vm_V} (hN : isP σ 5 v) {p : Nat} (hp : p < 6) {t : Nat × (Nat → Int32)} (hT : cTr σ t.1 t.2) {dp : Nat} (hd : dp ≤ 12) (hk : V_kd v p = 3) : vm_RI G 7 mX7_asked [.ref 0, .int (nI 0), .int (nI p), .int (nI dp)] σ (fun r σ' => r = V_sp v p + (nI p + nI (V_er v p) - nI 1000) ∧ cTr σ' (sLvs [11, 10, 22, 21, 20] t).1 (sLvs [11, 10, 22, 21, 20] t).2 ∧ ∀ o, o ≠ 171 → o ≠ 172 → σ' o = σ o) := by
  refine vm_int (y := mX7_asked) (by decide) (Nat.le_of_ble_eq_true rfl) (ls0 := [some (.ref 0), some (.int (nI 0)), some (.int (nI p)), some (.int (nI dp)), none]) rfl rfl (fun C F K => ?_)
  have F : vm_F G C cX7_asked RX7 5 _ := F
  show vm_Ex G C 5 0 [some (.ref 0), some (.int (nI 0)), some (.int (nI p)), some (.int (nI dp)), none] [] _
  refine q_iload_n F 1 dX7_asked_0 rfl rfl ?_
  refine z_ne F 10 dX7_asked_1 (by decide) (by omega) (fun c_1 => ?_) (fun c_1 => ?_)
  · omega
  · refine sX7_250 F dX7_asked_4 ?_
    refine q_goto F 13 dX7_asked_7 (by decide) ?_
    refine q_astore4 F dX7_asked_13 (by decide) rfl ?_
    refine q_aload_n F 0 dX7_asked_15 rfl rfl ?_
    refine q_aload F 4 dX7_asked_16 rfl ?_
    refine q_aload_n F 0 dX7_asked_18 rfl rfl ?_
    refine gX7_25 F dX7_asked_19 sh_0 rfl ?_
    refine gX7_223 F dX7_asked_22 path5.1 rfl ?_
    refine q_iload_n F 2 dX7_asked_25 rfl rfl ?_
    refine q_iald F dX7_asked_26 path5.2.1 (by omega) (by decide) ?_
    refine q_top (.int (nI (V_kd v p))) (congrArg Value.int (hN.kd p)) ?_
    refine iX7_256 F dX7_asked_27 (c_nearS (show V_kd v p < 6 by omega)) (by decide) rfl rfl (Nat.le_of_ble_eq_true rfl) (fun v_27 σ_27 h_27 => ?_)
    obtain ⟨rfl, rfl⟩ := h_27
    refine q_top (.int (nI 11)) (congrArg Value.int (by rw [hk]; decide)) ?_
    refine q_iload_n F 2 dX7_asked_30 rfl rfl ?_
    refine q_iload_n F 3 dX7_asked_31 rfl rfl ?_
    refine iX7_260 F dX7_asked_32 (c_g11k3 hN hp hT (by omega) hk) (by decide) sh_0 rfl rfl (Nat.le_of_ble_eq_true rfl) (fun v_32 σ_32 h_32 => ?_)
    obtain ⟨rfl, t32, f32⟩ := h_32
    refine K _ _ _ _ ?_ dX7_asked_35 rfl
    exact ⟨rfl, t32, f32⟩
set_option maxHeartbeats 4000000 in
set_option maxRecDepth 100000 in
theorem c_aS2 {G : vm_G} {σ : vm_M} {v : vm_V} (hN : isP σ 5 v) {p : Nat} (hp : p < 6) {t : Nat × (Nat → Int32)} (hT : cTr σ t.1 t.2) {dp : Nat} (hd : dp ≤ 11) (hk : V_kd v p = 2) : vm_RI G 7 mX7_asked [.ref 0, .int (nI 0), .int (nI p), .int (nI dp)] σ (fun r σ' => r = -(V_sp v p + nI 2 * (nI p + nI (V_er v p))) ∧ cTr σ' (sLvs [12, 11, 10, 24, 21, 20] t).1 (sLvs [12, 11, 10, 24, 21, 20] t).2 ∧ ∀ o, o ≠ 171 → o ≠ 172 → σ' o = σ o) := by
  refine vm_int (y := mX7_asked) (by decide) (Nat.le_of_ble_eq_true rfl) (ls0 := [some (.ref 0), some (.int (nI 0)), some (.int (nI p)), some (.int (nI dp)), none]) rfl rfl (fun C F K => ?_)
  have F : vm_F G C cX7_asked RX7 5 _ := F
  show vm_Ex G C 5 0 [some (.ref 0), some (.int (nI 0)), some (.int (nI p)), some (.int (nI dp)), none] [] _
  refine q_iload_n F 1 dX7_asked_0 rfl rfl ?_
  refine z_ne F 10 dX7_asked_1 (by decide) (by omega) (fun c_1 => ?_) (fun c_1 => ?_)
  · omega
  · refine sX7_250 F dX7_asked_4 ?_
    refine q_goto F 13 dX7_asked_7 (by decide) ?_
    refine q_astore4 F dX7_asked_13 (by decide) rfl ?_
    refine q_aload_n F 0 dX7_asked_15 rfl rfl ?_
    refine q_aload F 4 dX7_asked_16 rfl ?_
    refine q_aload_n F 0 dX7_asked_18 rfl rfl ?_
    refine gX7_25 F dX7_asked_19 sh_0 rfl ?_
    refine gX7_223 F dX7_asked_22 path5.1 rfl ?_
    refine q_iload_n F 2 dX7_asked_25 rfl rfl ?_
    refine q_iald F dX7_asked_26 path5.2.1 (by omega) (by decide) ?_
    refine q_top (.int (nI (V_kd v p))) (congrArg Value.int (hN.kd p)) ?_
    refine iX7_256 F dX7_asked_27 (c_nearS (show V_kd v p < 6 by omega)) (by decide) rfl rfl (Nat.le_of_ble_eq_true rfl) (fun v_27 σ_27 h_27 => ?_)
    obtain ⟨rfl, rfl⟩ := h_27
    refine q_top (.int (nI 12)) (congrArg Value.int (by rw [hk]; decide)) ?_
    refine q_iload_n F 2 dX7_asked_30 rfl rfl ?_
    refine q_iload_n F 3 dX7_asked_31 rfl rfl ?_
    refine iX7_260 F dX7_asked_32 (c_g12 hN hp hT (by omega) hk) (by decide) sh_0 rfl rfl (Nat.le_of_ble_eq_true rfl) (fun v_32 σ_32 h_32 => ?_)
    obtain ⟨rfl, t32, f32⟩ := h_32
    refine K _ _ _ _ ?_ dX7_asked_35 rfl
    exact ⟨rfl, t32, f32⟩
set_option maxHeartbeats 4000000 in
set_option maxRecDepth 100000 in
theorem c_aM4 {G : vm_G} {σ : vm_M} {v : vm_V} (hN : isP σ 5 v) {p : Nat} (hp : p < 6) {t : Nat × (Nat → Int32)} (hT : cTr σ t.1 t.2) {dp : Nat} (hd : dp ≤ 12) (hk : V_kd v p = 4) : vm_RI G 7 mX7_asked [.ref 0, .int (nI 1), .int (nI p), .int (nI dp)] σ (fun r σ' => r = nI p - (V_sp v p - nI 100) ∧ cTr σ' (sLvs [23, 20, 13, 10] t).1 (sLvs [23, 20, 13, 10] t).2 ∧ ∀ o, o ≠ 171 → o ≠ 172 → σ' o = σ o) := by
  refine vm_int (y := mX7_asked) (by decide) (Nat.le_of_ble_eq_true rfl) (ls0 := [some (.ref 0), some (.int (nI 1)), some (.int (nI p)), some (.int (nI dp)), none]) rfl rfl (fun C F K => ?_)
  have F : vm_F G C cX7_asked RX7 5 _ := F
  show vm_Ex G C 5 0 [some (.ref 0), some (.int (nI 1)), some (.int (nI p)), some (.int (nI dp)), none] [] _
  refine q_iload_n F 1 dX7_asked_0 rfl rfl ?_
  refine z_ne F 10 dX7_asked_1 (by decide) (by omega) (fun c_1 => ?_) (fun c_1 => ?_)
  · refine sX7_253 F dX7_asked_10 ?_
    refine q_astore4 F dX7_asked_13 (by decide) rfl ?_
    refine q_aload_n F 0 dX7_asked_15 rfl rfl ?_
    refine q_aload F 4 dX7_asked_16 rfl ?_
    refine q_aload_n F 0 dX7_asked_18 rfl rfl ?_
    refine gX7_25 F dX7_asked_19 sh_0 rfl ?_
    refine gX7_223 F dX7_asked_22 path5.1 rfl ?_
    refine q_iload_n F 2 dX7_asked_25 rfl rfl ?_
    refine q_iald F dX7_asked_26 path5.2.1 (by omega) (by decide) ?_
    refine q_top (.int (nI (V_kd v p))) (congrArg Value.int (hN.kd p)) ?_
    refine iX7_256 F dX7_asked_27 (c_nearM (show V_kd v p < 6 by omega)) (by decide) rfl rfl (Nat.le_of_ble_eq_true rfl) (fun v_27 σ_27 h_27 => ?_)
    obtain ⟨rfl, rfl⟩ := h_27
    refine q_top (.int (nI 23)) (congrArg Value.int (by rw [hk]; decide)) ?_
    refine q_iload_n F 2 dX7_asked_30 rfl rfl ?_
    refine q_iload_n F 3 dX7_asked_31 rfl rfl ?_
    refine iX7_260 F dX7_asked_32 (c_g23k4 hN hp hT (by omega) hk) (by decide) sh_0 rfl rfl (Nat.le_of_ble_eq_true rfl) (fun v_32 σ_32 h_32 => ?_)
    obtain ⟨rfl, t32, f32⟩ := h_32
    refine K _ _ _ _ ?_ dX7_asked_35 rfl
    exact ⟨rfl, t32, f32⟩
  · omega
set_option maxHeartbeats 4000000 in
set_option maxRecDepth 100000 in
theorem c_aM5 {G : vm_G} {σ : vm_M} {v : vm_V} (hN : isP σ 5 v) {p : Nat} (hp : p < 6) {t : Nat × (Nat → Int32)} (hT : cTr σ t.1 t.2) {dp : Nat} (hd : dp ≤ 12) (hk : V_kd v p = 5) : vm_RI G 7 mX7_asked [.ref 0, .int (nI 1), .int (nI p), .int (nI dp)] σ (fun r σ' => r = nI p - nI 2 * (V_sp v p - nI 100) ∧ cTr σ' (sLvs [23, 20, 14, 13, 10] t).1 (sLvs [23, 20, 14, 13, 10] t).2 ∧ ∀ o, o ≠ 171 → o ≠ 172 → σ' o = σ o) := by
  refine vm_int (y := mX7_asked) (by decide) (Nat.le_of_ble_eq_true rfl) (ls0 := [some (.ref 0), some (.int (nI 1)), some (.int (nI p)), some (.int (nI dp)), none]) rfl rfl (fun C F K => ?_)
  have F : vm_F G C cX7_asked RX7 5 _ := F
  show vm_Ex G C 5 0 [some (.ref 0), some (.int (nI 1)), some (.int (nI p)), some (.int (nI dp)), none] [] _
  refine q_iload_n F 1 dX7_asked_0 rfl rfl ?_
  refine z_ne F 10 dX7_asked_1 (by decide) (by omega) (fun c_1 => ?_) (fun c_1 => ?_)
  · refine sX7_253 F dX7_asked_10 ?_
    refine q_astore4 F dX7_asked_13 (by decide) rfl ?_
    refine q_aload_n F 0 dX7_asked_15 rfl rfl ?_
    refine q_aload F 4 dX7_asked_16 rfl ?_
    refine q_aload_n F 0 dX7_asked_18 rfl rfl ?_
    refine gX7_25 F dX7_asked_19 sh_0 rfl ?_
    refine gX7_223 F dX7_asked_22 path5.1 rfl ?_
    refine q_iload_n F 2 dX7_asked_25 rfl rfl ?_
    refine q_iald F dX7_asked_26 path5.2.1 (by omega) (by decide) ?_
    refine q_top (.int (nI (V_kd v p))) (congrArg Value.int (hN.kd p)) ?_
    refine iX7_256 F dX7_asked_27 (c_nearM (show V_kd v p < 6 by omega)) (by decide) rfl rfl (Nat.le_of_ble_eq_true rfl) (fun v_27 σ_27 h_27 => ?_)
    obtain ⟨rfl, rfl⟩ := h_27
    refine q_top (.int (nI 23)) (congrArg Value.int (by rw [hk]; decide)) ?_
    refine q_iload_n F 2 dX7_asked_30 rfl rfl ?_
    refine q_iload_n F 3 dX7_asked_31 rfl rfl ?_
    refine iX7_260 F dX7_asked_32 (c_g23k5 hN hp hT (by omega) hk) (by decide) sh_0 rfl rfl (Nat.le_of_ble_eq_true rfl) (fun v_32 σ_32 h_32 => ?_)
    obtain ⟨rfl, t32, f32⟩ := h_32
    refine K _ _ _ _ ?_ dX7_asked_35 rfl
    exact ⟨rfl, t32, f32⟩
  · omega
/-- asked of any kind -/
theorem c_askS {G : vm_G} {σ : vm_M} {v : vm_V} (hN : isP σ 5 v) {p : Nat} (hp : p < 6) {t : Nat × (Nat → Int32)} (hT : cTr σ t.1 t.2) {dp : Nat} (hd : dp ≤ 11) (h1 : 1 ≤ V_kd v p) (h5 : V_kd v p < 6) : vm_RI G 7 mX7_asked [.ref 0, .int (nI 0), .int (nI p), .int (nI dp)] σ (fun r σ' => r = (gSize v p).2 ∧ cTr σ' (sLvs (gSize v p).1 t).1 (sLvs (gSize v p).1 t).2 ∧ ∀ o, o ≠ 171 → o ≠ 172 → σ' o = σ o) := by
  rcases (show V_kd v p = 1 ∨ V_kd v p = 2 ∨ V_kd v p = 3 ∨ V_kd v p = 4 ∨ V_kd v p = 5 by omega) with hk | hk | hk | hk | hk
  · have e : gSize v p = ([11, 10, 21, 20], V_sp v p + (nI p + nI (V_er v p))) := by simp [gSize, hk]
    rw [e]
    exact c_aS1 hN hp hT (by omega) hk
  · have e : gSize v p = ([12, 11, 10, 24, 21, 20], -(V_sp v p + nI 2 * (nI p + nI (V_er v p)))) := by simp [gSize, hk]
    rw [e]
    exact c_aS2 hN hp hT (by omega) hk
  · have e : gSize v p = ([11, 10, 22, 21, 20], V_sp v p + (nI p + nI (V_er v p) - nI 1000)) := by simp [gSize, hk]
    rw [e]
    exact c_aS3 hN hp hT (by omega) hk
  · have e : gSize v p = ([13, 10], V_sp v p - nI 100) := by simp [gSize, hk]
    rw [e]
    exact c_aS4x hN hp hT (by omega) hk
  · have e : gSize v p = ([14, 13, 10], nI 2 * (V_sp v p - nI 100)) := by simp [gSize, hk]
    rw [e]
    exact c_aS5x hN hp hT (by omega) hk
theorem c_askM {G : vm_G} {σ : vm_M} {v : vm_V} (hN : isP σ 5 v) {p : Nat} (hp : p < 6) {t : Nat × (Nat → Int32)} (hT : cTr σ t.1 t.2) {dp : Nat} (hd : dp ≤ 11) (h1 : 1 ≤ V_kd v p) (h5 : V_kd v p < 6) : vm_RI G 7 mX7_asked [.ref 0, .int (nI 1), .int (nI p), .int (nI dp)] σ (fun r σ' => r = (gMark v p).2 ∧ cTr σ' (sLvs (gMark v p).1 t).1 (sLvs (gMark v p).1 t).2 ∧ ∀ o, o ≠ 171 → o ≠ 172 → σ' o = σ o) := by
  rcases (show V_kd v p = 1 ∨ V_kd v p = 2 ∨ V_kd v p = 3 ∨ V_kd v p = 4 ∨ V_kd v p = 5 by omega) with hk | hk | hk | hk | hk
  · have e : gMark v p = ([21, 20], nI p + nI (V_er v p)) := by simp [gMark, hk]
    rw [e]
    exact c_aM1x hN hp hT (by omega) hk
  · have e : gMark v p = ([24, 21, 20], nI 2 * (nI p + nI (V_er v p))) := by simp [gMark, hk]
    rw [e]
    exact c_aM2x hN hp hT (by omega) hk
  · have e : gMark v p = ([22, 21, 20], nI p + nI (V_er v p) - nI 1000) := by simp [gMark, hk]
    rw [e]
    exact c_aM3x hN hp hT (by omega) hk
  · have e : gMark v p = ([23, 20, 13, 10], nI p - (V_sp v p - nI 100)) := by simp [gMark, hk]
    rw [e]
    exact c_aM4 hN hp hT (by omega) hk
  · have e : gMark v p = ([23, 20, 14, 13, 10], nI p - nI 2 * (V_sp v p - nI 100)) := by simp [gMark, hk]
    rw [e]
    exact c_aM5 hN hp hT (by omega) hk
set_option maxHeartbeats 4000000 in
set_option maxRecDepth 100000 in
theorem k_ask {G : vm_G} {σ : vm_M} {T : vm_T} (hC : CInv σ T) (hI : SInv T) (p w : Int32) : vm_RI G 8 mX7_ask [.ref 0, .int p, .int w] σ (cPost σ (aAsk T p w)) := by
  refine vm_int (y := mX7_ask) (by decide) (Nat.le_of_ble_eq_true rfl) (ls0 := [some (.ref 0), some (.int p), some (.int w)]) rfl rfl (fun C F K => ?_)
  have F : vm_F G C cX7_ask RX7 3 _ := F
  show vm_Ex G C 3 0 [some (.ref 0), some (.int p), some (.int w)] [] _
  obtain ⟨hRows, hTape, hNow, hPast, hImg, hTr, hFlt, hFnd, hDr⟩ := id hC
  have hN := hNow.2
  have hOk : sOk (T_nw T) := hI.1.1
  have hn6 : V_n (T_nw T) ≤ 6 := hOk.1
  refine q_iload_n F 1 dX7_ask_0 rfl rfl ?_
  refine q_aload_n F 0 dX7_ask_1 rfl rfl ?_
  refine gX7_25 F dX7_ask_2 sh_0 rfl ?_
  refine gX7_149 F dX7_ask_5 path5.1 rfl ?_
  refine q_top (.int (nI (V_n (T_nw T)))) (congrArg Value.int (hN.n)) ?_
  refine iX7_76 F dX7_ask_8 (c_isWithin p (by omega)) (by decide) rfl rfl (Nat.le_of_ble_eq_true rfl) (fun v_8 σ_8 h_8 => ?_)
  obtain ⟨rfl, rfl⟩ := h_8
  refine b_eq F 23 dX7_ask_11 (by decide) (fun c_11 => ?_) (fun c_11 => ?_)
  · refine q_ldc F dX7_ask_23 wX7_80 ?_
    refine K _ _ _ _ ?_ dX7_ask_25 rfl
    have e : aAsk T p w = (sBAD, T) := by
      simp [aAsk, c_11]
    rw [e]
    exact ⟨rfl, hC, fun _ _ => rfl⟩
  · obtain ⟨j, hj, rfl⟩ := wi_of c_11
    have hx := xN_nI (show j < 2 ^ 31 by omega)
    have hk1 : 1 ≤ V_kd (T_nw T) j := hI.1.2.2.2 j hj
    have hk5 : V_kd (T_nw T) j < 6 := hOk.2.2.1 j
    refine q_iload_n F 2 dX7_ask_14 rfl rfl ?_
    refine q_if_lt F 23 dX7_ask_15 (by decide) (fun c_15 => ?_) (fun c_15 => ?_)
    · refine q_ldc F dX7_ask_23 wX7_80 ?_
      refine K _ _ _ _ ?_ dX7_ask_25 rfl
      have hw : wi w 2 = false := (wi_no w 2).mpr (by rw [i_lt0] at c_15; omega)
      have e : aAsk T (nI j) w = (sBAD, T) := by
        simp [aAsk, hw]
      rw [e]
      exact ⟨rfl, hC, fun _ _ => rfl⟩
    · refine q_iload_n F 2 dX7_ask_18 rfl rfl ?_
      refine q_iconst F (nI 1) dX7_ask_19 (by decide) ?_
      refine q_icmp_le F 26 dX7_ask_20 (by decide) (fun c_20 => ?_) (fun c_20 => ?_)
      · have hw01 : w = nI 0 ∨ w = nI 1 := by
          rw [i_lt0] at c_15
          rw [i_le (by decide)] at c_20
          rcases sw3 w with h | h | h | ⟨h, -⟩
          · exact Or.inl h
          · exact Or.inr h
          · rw [h] at c_20; exact absurd c_20 (by decide)
          · omega
        rcases hw01 with rfl | rfl
        · refine q_aload_n F 0 dX7_ask_26 rfl rfl ?_
          refine gX7_53 F dX7_ask_27 sh_0 rfl ?_
          refine q_iconst F (nI 0) dX7_ask_30 (by decide) ?_
          refine pX7_229 F dX7_ask_31 sh_171 rfl ⟨rfl, rfl⟩ ?_
          refine q_aload_n F 0 dX7_ask_34 rfl rfl ?_
          refine q_iload_n F 2 dX7_ask_35 rfl rfl ?_
          refine q_iload_n F 1 dX7_ask_36 rfl rfl ?_
          refine q_iconst F (nI 0) dX7_ask_37 (by decide) ?_
          refine iX7_230 F dX7_ask_38 (c_askS (t := (0, T_tr T)) (hN.fr (fun o a b => vm_upd_n _ _ _ (by omega))) (by omega) ⟨by simp [vm_upd, upd], Nat.zero_le _, fun i hi => absurd hi (Nat.not_lt_zero _)⟩ (by omega) hk1 hk5) (by decide) sh_0 rfl rfl (Nat.le_of_ble_eq_true rfl) (fun v_38 σ_38 h_38 => ?_)
          obtain ⟨rfl, t2, f2⟩ := h_38
          refine K _ _ _ _ ?_ dX7_ask_41 rfl
          have e : aAsk T (nI j) (nI 0) = ((gSize (T_nw T) j).2, sT_tr T (sLvs (gSize (T_nw T) j).1 (0, T_tr T))) := by
            unfold aAsk
            rw [hx, if_neg (by simp [c_11, show wi (nI 0) 2 = true by decide])]
            simp [nn1]
          rw [e]
          exact ⟨rfl, hC.tr t2 (fun o a b => by rw [f2 o a b, vm_upd_n _ _ _ a]), fun o ho => by rw [f2 o (by omega) (by omega), vm_upd_n _ _ _ (by omega)]⟩
        · refine q_aload_n F 0 dX7_ask_26 rfl rfl ?_
          refine gX7_53 F dX7_ask_27 sh_0 rfl ?_
          refine q_iconst F (nI 0) dX7_ask_30 (by decide) ?_
          refine pX7_229 F dX7_ask_31 sh_171 rfl ⟨rfl, rfl⟩ ?_
          refine q_aload_n F 0 dX7_ask_34 rfl rfl ?_
          refine q_iload_n F 2 dX7_ask_35 rfl rfl ?_
          refine q_iload_n F 1 dX7_ask_36 rfl rfl ?_
          refine q_iconst F (nI 0) dX7_ask_37 (by decide) ?_
          refine iX7_230 F dX7_ask_38 (c_askM (t := (0, T_tr T)) (hN.fr (fun o a b => vm_upd_n _ _ _ (by omega))) (by omega) ⟨by simp [vm_upd, upd], Nat.zero_le _, fun i hi => absurd hi (Nat.not_lt_zero _)⟩ (by omega) hk1 hk5) (by decide) sh_0 rfl rfl (Nat.le_of_ble_eq_true rfl) (fun v_38 σ_38 h_38 => ?_)
          obtain ⟨rfl, t2, f2⟩ := h_38
          refine K _ _ _ _ ?_ dX7_ask_41 rfl
          have e : aAsk T (nI j) (nI 1) = ((gMark (T_nw T) j).2, sT_tr T (sLvs (gMark (T_nw T) j).1 (0, T_tr T))) := by
            unfold aAsk
            rw [hx, if_neg (by simp [c_11, show wi (nI 1) 2 = true by decide])]
            simp [nn1]
          rw [e]
          exact ⟨rfl, hC.tr t2 (fun o a b => by rw [f2 o a b, vm_upd_n _ _ _ a]), fun o ho => by rw [f2 o (by omega) (by omega), vm_upd_n _ _ _ (by omega)]⟩
      · refine q_ldc F dX7_ask_23 wX7_80 ?_
        refine K _ _ _ _ ?_ dX7_ask_25 rfl
        have hw : wi w 2 = false := (wi_no w 2).mpr (by rw [i_le (by decide)] at c_20; omega)
        have e : aAsk T (nI j) w = (sBAD, T) := by
          simp [aAsk, hw]
        rw [e]
        exact ⟨rfl, hC, fun _ _ => rfl⟩
