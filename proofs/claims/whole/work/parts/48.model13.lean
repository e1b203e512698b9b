/-! ===== THE MODEL'S READER ===== -/
def mSrt (c : Nat) : Nat := if 97 ≤ c ∧ c ≤ 122 then 1 else if 48 ≤ c ∧ c ≤ 57 then 2 else 0
theorem srt_1 {c : Nat} : mSrt c = 1 ↔ isLe c = true := by
  unfold mSrt isLe
  by_cases h : 97 ≤ c ∧ c ≤ 122
  · simp [h]
  · rw [if_neg h]
    have : ¬ (decide (97 ≤ c) && decide (c ≤ 122)) = true := by simpa using h
    rw [eq_false this]
    split <;> simp
theorem srt_2 {c : Nat} : mSrt c = 2 ↔ isFi c = true := by
  unfold mSrt isFi
  by_cases h : 48 ≤ c ∧ c ≤ 57
  · rw [if_neg (by omega), if_pos h]; simp [h]
  · have : ¬ (decide (48 ≤ c) && decide (c ≤ 57)) = true := by simpa using h
    rw [if_neg h, eq_false this]
    split <;> simp
theorem le_fi {c : Nat} (h : isLe c = true) : isFi c = false := by
  unfold isLe at h
  unfold isFi
  simp at h ⊢
  omega
/-- a token's end, as it is found -/
theorem tEnd_of {tl p i : Nat} {tb : Nat → Nat} (hp : p < tl) (hi : 1 ≤ i) (hit : p + i ≤ tl) (h : ∀ j, j < i → mSrt (tb (p + j)) = mSrt (tb p)) (h0 : i = 1 ∨ 0 < mSrt (tb p)) (hs : p + i = tl ∨ mSrt (tb p) = 0 ∨ (p + i < tl ∧ mSrt (tb (p + i)) ≠ mSrt (tb p))) : tEnd tl tb p = p + i := by
  unfold tEnd
  rw [if_neg (by omega)]
  by_cases hl : isLe (tb p) = true
  · rw [if_pos hl]
    have e1 := srt_1.mpr hl
    have hh : ∀ k, k < i → isLe (tb (p + k)) = true := fun k hk => srt_1.mp ((h k hk).trans e1)
    unfold tRun
    rcases hs with q | q | q
    · exact run_all hh q
    · omega
    · refine run_at hh q.1 ?_
      cases hq : isLe (tb (p + i))
      · rfl
      · exact absurd ((srt_1.mpr hq).trans e1.symm) q.2
  · rw [if_neg hl]
    by_cases hf : isFi (tb p) = true
    · rw [if_pos hf]
      have e1 := srt_2.mpr hf
      have hh : ∀ k, k < i → isFi (tb (p + k)) = true := fun k hk => srt_2.mp ((h k hk).trans e1)
      unfold tRun
      rcases hs with q | q | q
      · exact run_all hh q
      · omega
      · refine run_at hh q.1 ?_
        cases hq : isFi (tb (p + i))
        · rfl
        · exact absurd ((srt_2.mpr hq).trans e1.symm) q.2
    · rw [if_neg hf]
      have : mSrt (tb p) = 0 := by
        have a1 : mSrt (tb p) ≠ 1 := fun z => hl (srt_1.mp z)
        have a2 : mSrt (tb p) ≠ 2 := fun z => hf (srt_2.mp z)
        unfold mSrt at *
        (repeat' split) <;> simp_all
      omega
theorem ty_2 {tl p : Nat} {tb : Nat → Nat} : tTy tl tb p = 2 ↔ p ≠ tl ∧ mSrt (tb p) = 2 ∧ tEnd tl tb p - p ≤ 3 := by
  rw [srt_2]
  unfold tTy tEnd
  by_cases h1 : p = tl
  · simp [h1]
  · rw [if_neg h1, if_neg h1]
    by_cases h2 : isLe (tb p) = true
    · rw [if_pos h2, if_pos h2, le_fi h2]; simp
    · rw [if_neg h2, if_neg h2]
      by_cases h3 : isFi (tb p) = true
      · rw [if_pos h3, if_pos h3]
        by_cases h4 : tRun isFi tl tb p - p ≤ 3
        · rw [if_pos h4]; simp [h1, h3, h4]
        · rw [if_neg h4]; simp [h4]
      · rw [if_neg h3, if_neg h3]
        split <;> simp [h3]
theorem ty_3 {tl p : Nat} {tb : Nat → Nat} : tTy tl tb p = 3 ↔ p ≠ tl ∧ tb p = 59 := by
  unfold tTy
  by_cases h1 : p = tl
  · simp [h1]
  · rw [if_neg h1]
    by_cases h2 : isLe (tb p) = true
    · rw [if_pos h2]
      have : tb p ≠ 59 := by unfold isLe at h2; simp at h2; omega
      simp [this]
    · rw [if_neg h2]
      by_cases h3 : isFi (tb p) = true
      · rw [if_pos h3]
        have : tb p ≠ 59 := by unfold isFi at h3; simp at h3; omega
        split <;> simp [this]
      · rw [if_neg h3]
        by_cases h4 : tb p = 59
        · simp [h1, h4]
        · simp [h4]
theorem ty_0 {tl p : Nat} {tb : Nat → Nat} : tTy tl tb p = 0 ↔ p = tl := by
  unfold tTy
  by_cases h1 : p = tl
  · simp [h1]
  · rw [if_neg h1]
    (repeat' split) <;> simp [h1]
theorem ty_1 {tl p : Nat} {tb : Nat → Nat} (h1 : p ≠ tl) (h2 : isLe (tb p) = true) : tTy tl tb p = 1 := by
  unfold tTy
  rw [if_neg h1, if_pos h2]
def mRd (σ : vm_M) (tl : Nat) (tb : Nat → Nat) : Prop := σ 202 4 = nI tl ∧ tl ≤ 400 ∧ ∀ j, j < tl → σ 205 j = nI (tb j) ∧ tb j < 256
/-- only these three have changed: at, place, end -/
def mFT (σ σ' : vm_M) : Prop := (∀ o, o ≠ 202 → σ' o = σ o) ∧ ∀ k, k ≠ 12 → k ≠ 13 → k ≠ 14 → σ' 202 k = σ 202 k
theorem mFT.rf {σ : vm_M} : mFT σ σ := ⟨fun _ _ => rfl, fun _ _ _ _ => rfl⟩
theorem mFT.tr {σ σ1 σ2 : vm_M} (h : mFT σ σ1) (h2 : mFT σ1 σ2) : mFT σ σ2 := ⟨fun o a => (h2.1 o a).trans (h.1 o a), fun k a b c => (h2.2 k a b c).trans (h.2 k a b c)⟩
theorem mFT.up {σ σ1 : vm_M} {k : Nat} {x : Int32} (h : mFT σ σ1) (hk : 12 ≤ k ∧ k ≤ 14) : mFT σ (vm_upd σ1 202 k x) := ⟨fun o a => by rw [vm_upd_n _ _ _ a]; exact h.1 o a, fun j a b c => by rw [vm_upd_k _ _ _ (by omega)]; exact h.2 j a b c⟩
theorem mRd.ft {σ σ' : vm_M} {tl : Nat} {tb : Nat → Nat} (h : mRd σ tl tb) (hf : mFT σ σ') : mRd σ' tl tb := by
  obtain ⟨a, b, c⟩ := h
  refine ⟨(hf.2 4 (by omega) (by omega) (by omega)).trans a, b, ?_⟩
  rw [hf.1 205 (by omega)]
  exact c
/-- the token with this number is the one ahead -/
def mTk (σ : vm_M) (tl : Nat) (tb : Nat → Nat) (k : Nat) : Prop := σ 202 12 = nI (tEnd tl tb (tQ tl tb k)) ∧ σ 202 13 = nI (tQ tl tb k) ∧ σ 202 14 = nI (tEnd tl tb (tQ tl tb k))
theorem mTk.fr {σ σ' : vm_M} {tl k : Nat} {tb : Nat → Nat} (h : mTk σ tl tb k) (h1 : σ' 202 12 = σ 202 12) (h2 : σ' 202 13 = σ 202 13) (h3 : σ' 202 14 = σ 202 14) : mTk σ' tl tb k := ⟨h1.trans h.1, h2.trans h.2.1, h3.trans h.2.2⟩
set_option maxHeartbeats 4000000 in
set_option maxRecDepth 100000 in
theorem m_sort {G : vm_G} {σ : vm_M} {c : Nat} (hc : c < 256) : vm_RI G 0 mX8_sort [.int (nI c)] σ (fun r σ' => r = nI (mSrt c) ∧ σ' = σ) := by
  refine vm_int (y := mX8_sort) (by decide) (Nat.le_of_ble_eq_true rfl) (ls0 := [some (.int (nI c))]) rfl rfl (fun C F K => ?_)
  have F : vm_F G C cX8_sort RX8 1 _ := F
  show vm_Ex G C 1 0 [some (.int (nI c))] [] _
  refine q_iload_n F 0 dX8_sort_0 rfl rfl ?_
  refine q_bipush F (nI 97) dX8_sort_1 (by decide) ?_
  refine n_lt F 16 dX8_sort_3 (by decide) (by omega) (by omega) (fun c_3 => ?_) (fun c_3 => ?_)
  · refine q_iload_n F 0 dX8_sort_16 rfl rfl ?_
    refine q_bipush F (nI 48) dX8_sort_17 (by decide) ?_
    refine n_lt F 32 dX8_sort_19 (by decide) (by omega) (by omega) (fun c_19 => ?_) (fun c_19 => ?_)
    · refine q_iconst F (nI 0) dX8_sort_32 (by decide) ?_
      refine K _ _ _ _ ?_ dX8_sort_33 rfl
      refine ⟨?_, rfl⟩
      unfold mSrt
      (repeat' split) <;> first | rfl | omega
    · refine q_iload_n F 0 dX8_sort_22 rfl rfl ?_
      refine q_bipush F (nI 57) dX8_sort_23 (by decide) ?_
      refine n_gt F 32 dX8_sort_25 (by decide) (by omega) (by omega) (fun c_25 => ?_) (fun c_25 => ?_)
      · refine q_iconst F (nI 0) dX8_sort_32 (by decide) ?_
        refine K _ _ _ _ ?_ dX8_sort_33 rfl
        refine ⟨?_, rfl⟩
        unfold mSrt
        (repeat' split) <;> first | rfl | omega
      · refine q_iconst F (nI 2) dX8_sort_28 (by decide) ?_
        refine q_goto F 33 dX8_sort_29 (by decide) ?_
        refine K _ _ _ _ ?_ dX8_sort_33 rfl
        refine ⟨?_, rfl⟩
        unfold mSrt
        (repeat' split) <;> first | rfl | omega
  · refine q_iload_n F 0 dX8_sort_6 rfl rfl ?_
    refine q_bipush F (nI 122) dX8_sort_7 (by decide) ?_
    refine n_gt F 16 dX8_sort_9 (by decide) (by omega) (by omega) (fun c_9 => ?_) (fun c_9 => ?_)
    · refine q_iload_n F 0 dX8_sort_16 rfl rfl ?_
      refine q_bipush F (nI 48) dX8_sort_17 (by decide) ?_
      refine n_lt F 32 dX8_sort_19 (by decide) (by omega) (by omega) (fun c_19 => ?_) (fun c_19 => ?_)
      · refine q_iconst F (nI 0) dX8_sort_32 (by decide) ?_
        refine K _ _ _ _ ?_ dX8_sort_33 rfl
        refine ⟨?_, rfl⟩
        unfold mSrt
        (repeat' split) <;> first | rfl | omega
      · refine q_iload_n F 0 dX8_sort_22 rfl rfl ?_
        refine q_bipush F (nI 57) dX8_sort_23 (by decide) ?_
        refine n_gt F 32 dX8_sort_25 (by decide) (by omega) (by omega) (fun c_25 => ?_) (fun c_25 => ?_)
        · refine q_iconst F (nI 0) dX8_sort_32 (by decide) ?_
          refine K _ _ _ _ ?_ dX8_sort_33 rfl
          refine ⟨?_, rfl⟩
          unfold mSrt
          (repeat' split) <;> first | rfl | omega
        · refine q_iconst F (nI 2) dX8_sort_28 (by decide) ?_
          refine q_goto F 33 dX8_sort_29 (by decide) ?_
          refine K _ _ _ _ ?_ dX8_sort_33 rfl
          refine ⟨?_, rfl⟩
          unfold mSrt
          (repeat' split) <;> first | rfl | omega
    · refine q_iconst F (nI 1) dX8_sort_12 (by decide) ?_
      refine q_goto F 33 dX8_sort_13 (by decide) ?_
      refine K _ _ _ _ ?_ dX8_sort_33 rfl
      refine ⟨?_, rfl⟩
      unfold mSrt
      (repeat' split) <;> first | rfl | omega
theorem srt_sm (c : Nat) : mSrt c < 2 ^ 31 := by
  unfold mSrt
  (repeat' split) <;> omega
theorem i_le0 (x : Int32) : x ≤ 0 ↔ x.toInt ≤ 0 := by rw [Int32.le_iff_toInt_le]; rfl
set_option maxHeartbeats 4000000 in
set_option maxRecDepth 100000 in
theorem m_token {G : vm_G} {σ : vm_M} {tl : Nat} {tb : Nat → Nat} (hT : mRd σ tl tb) {a : Nat} (ha : a ≤ tl) (h : σ 202 12 = nI a) : vm_RV G 1 mX8_token [.ref 202] σ (fun σ' => (σ' 202 12 = nI (tEnd tl tb (tSk tl tb a)) ∧ σ' 202 13 = nI (tSk tl tb a) ∧ σ' 202 14 = nI (tEnd tl tb (tSk tl tb a))) ∧ mFT σ σ') := by
  refine vm_void (y := mX8_token) (by decide) (Nat.le_of_ble_eq_true rfl) (ls0 := [some (.ref 202)]) rfl rfl (fun C F K => ?_)
  have F : vm_F G C cX8_token RX8 1 _ := F
  show vm_Ex G C 1 0 [some (.ref 202)] [] _
  have htl := hT.2.1
  have J52 : ∀ (σ2 : vm_M) (p : Nat), p = tSk tl tb a → σ2 202 12 = nI p → mFT σ σ2 → vm_Ex G C 1 52 [some (.ref 202)] [] σ2 := by
    intro σ2 p hp h1 f
    have hpt : p ≤ tl := by rw [hp]; exact (tSk_le ha).2
    have htl := hT.2.1
    refine q_aload_n F 0 dX8_token_52 rfl rfl ?_
    refine q_aload_n F 0 dX8_token_53 rfl rfl ?_
    refine gX8_72 F dX8_token_54 sh_202 rfl ?_
    refine q_top (.int (nI p)) (congrArg Value.int (h1)) ?_
    refine pX8_75 F dX8_token_57 sh_202 rfl ⟨rfl, rfl⟩ ?_
    refine q_aload_n F 0 dX8_token_60 rfl rfl ?_
    refine q_dup F dX8_token_61 rfl ?_
    refine gX8_72 F dX8_token_62 sh_202 rfl ?_
    refine q_top (.int (nI p)) (congrArg Value.int (by rw [vm_upd_k _ _ _ (by omega)]; exact h1)) ?_
    refine q_aload_n F 0 dX8_token_65 rfl rfl ?_
    refine gX8_72 F dX8_token_66 sh_202 rfl ?_
    refine q_top (.int (nI p)) (congrArg Value.int (by rw [vm_upd_k _ _ _ (by omega)]; exact h1)) ?_
    refine q_aload_n F 0 dX8_token_69 rfl rfl ?_
    refine gX8_66 F dX8_token_70 sh_202 rfl ?_
    refine q_top (.int (nI tl)) (congrArg Value.int (by rw [vm_upd_k _ _ _ (by omega)]; exact (f.2 4 (by omega) (by omega) (by omega)).trans hT.1)) ?_
    refine n_ge F 80 dX8_token_73 (by decide) (by omega) (by omega) (fun c_73 => ?_) (fun c_73 => ?_)
    · refine q_iconst F (nI 0) dX8_token_80 (by decide) ?_
      refine n_iadd F dX8_token_81 ?_
      refine pX8_72 F dX8_token_82 sh_202 rfl ⟨rfl, rfl⟩ ?_
      have ep : p = tl := by omega
      refine q_aload_n F 0 dX8_token_85 rfl rfl ?_
      refine gX8_72 F dX8_token_86 sh_202 rfl ?_
      refine q_top (.int (nI p)) (congrArg Value.int (by simp [vm_upd, upd])) ?_
      refine q_aload_n F 0 dX8_token_89 rfl rfl ?_
      refine gX8_66 F dX8_token_90 sh_202 rfl ?_
      refine q_top (.int (nI tl)) (congrArg Value.int (by rw [vm_upd_k _ _ _ (by omega), vm_upd_k _ _ _ (by omega)]; exact (f.2 4 (by omega) (by omega) (by omega)).trans hT.1)) ?_
      refine n_ge F 151 dX8_token_93 (by decide) (by omega) (by omega) (fun c_93 => ?_) (fun c_93 => ?_)
      · refine q_aload_n F 0 dX8_token_151 rfl rfl ?_
        refine q_aload_n F 0 dX8_token_152 rfl rfl ?_
        refine gX8_72 F dX8_token_153 sh_202 rfl ?_
        refine q_top (.int (nI p)) (congrArg Value.int (by simp [vm_upd, upd])) ?_
        refine pX8_81 F dX8_token_156 sh_202 rfl ⟨rfl, rfl⟩ ?_
        refine K _ _ _ ?_ dX8_token_159
        have e : tEnd tl tb p = p := by unfold tEnd; rw [if_pos ep, ep]
        rw [← hp, e]
        exact ⟨⟨by simp [vm_upd, upd], by simp [vm_upd, upd], by simp [vm_upd, upd]⟩, ((f.up (by omega)).up (by omega)).up (by omega)⟩
      · omega
    · refine q_iconst F (nI 1) dX8_token_76 (by decide) ?_
      refine q_goto F 81 dX8_token_77 (by decide) ?_
      refine n_iadd F dX8_token_81 ?_
      refine pX8_72 F dX8_token_82 sh_202 rfl ⟨rfl, rfl⟩ ?_
      have hpl : p < tl := by omega
      have LB : ∀ k i, p + i + k = tl → ∀ σ2 : vm_M, 1 ≤ i → (i = 1 ∨ 0 < mSrt (tb p)) → (∀ j, j < i → mSrt (tb (p + j)) = mSrt (tb p)) → σ2 202 12 = nI (p + i) → σ2 202 13 = nI p → mFT σ σ2 → vm_Ex G C 1 85 [some (.ref 202)] [] σ2 := by
        intro k
        induction k with
        | zero =>
          intro i hi σ2 h1i h0 hh h1 h2 f
          refine q_aload_n F 0 dX8_token_85 rfl rfl ?_
          refine gX8_72 F dX8_token_86 sh_202 rfl ?_
          refine q_top (.int (nI (p + i))) (congrArg Value.int (h1)) ?_
          refine q_aload_n F 0 dX8_token_89 rfl rfl ?_
          refine gX8_66 F dX8_token_90 sh_202 rfl ?_
          refine q_top (.int (nI tl)) (congrArg Value.int ((f.2 4 (by omega) (by omega) (by omega)).trans hT.1)) ?_
          refine n_ge F 151 dX8_token_93 (by decide) (by omega) (by omega) (fun c_93 => ?_) (fun c_93 => ?_)
          · refine q_aload_n F 0 dX8_token_151 rfl rfl ?_
            refine q_aload_n F 0 dX8_token_152 rfl rfl ?_
            refine gX8_72 F dX8_token_153 sh_202 rfl ?_
            refine q_top (.int (nI (p + i))) (congrArg Value.int (h1)) ?_
            refine pX8_81 F dX8_token_156 sh_202 rfl ⟨rfl, rfl⟩ ?_
            refine K _ _ _ ?_ dX8_token_159
            have e := tEnd_of hpl h1i (by omega) hh h0 (Or.inl (by omega))
            rw [← hp, e]
            exact ⟨⟨by rw [vm_upd_k _ _ _ (by omega)]; exact h1, by rw [vm_upd_k _ _ _ (by omega)]; exact h2, by simp [vm_upd, upd]⟩, f.up (by omega)⟩
          · omega
        | succ k ih =>
          intro i hi σ2 h1i h0 hh h1 h2 f
          refine q_aload_n F 0 dX8_token_85 rfl rfl ?_
          refine gX8_72 F dX8_token_86 sh_202 rfl ?_
          refine q_top (.int (nI (p + i))) (congrArg Value.int (h1)) ?_
          refine q_aload_n F 0 dX8_token_89 rfl rfl ?_
          refine gX8_66 F dX8_token_90 sh_202 rfl ?_
          refine q_top (.int (nI tl)) (congrArg Value.int ((f.2 4 (by omega) (by omega) (by omega)).trans hT.1)) ?_
          refine n_ge F 151 dX8_token_93 (by decide) (by omega) (by omega) (fun c_93 => ?_) (fun c_93 => ?_)
          · omega
          · refine q_aload_n F 0 dX8_token_96 rfl rfl ?_
            refine gX8_16 F dX8_token_97 sh_202 rfl ?_
            refine q_aload_n F 0 dX8_token_100 rfl rfl ?_
            refine gX8_75 F dX8_token_101 sh_202 rfl ?_
            refine q_top (.int (nI p)) (congrArg Value.int (h2)) ?_
            refine q_iald F dX8_token_104 sh_205 (by omega) (by decide) ?_
            refine q_top (.int (nI (tb p))) (congrArg Value.int (by rw [f.1 205 (by omega)]; exact (hT.2.2 _ (by omega)).1)) ?_
            refine iX8_78 F dX8_token_105 (m_sort (c := tb (p)) (hT.2.2 _ (by omega)).2) (by decide) rfl rfl (Nat.le_of_ble_eq_true rfl) (fun v_105 σ_105 h_105 => ?_)
            obtain ⟨rfl, h_105⟩ := h_105
            obtain rfl := h_105.symm
            refine q_if_le F 151 dX8_token_108 (by decide) (fun c_108 => ?_) (fun c_108 => ?_)
            · have c_108 : mSrt (tb p) = 0 := by rw [i_le0] at c_108; rw [nI_toInt (srt_sm _)] at c_108; omega
              refine q_aload_n F 0 dX8_token_151 rfl rfl ?_
              refine q_aload_n F 0 dX8_token_152 rfl rfl ?_
              refine gX8_72 F dX8_token_153 sh_202 rfl ?_
              refine q_top (.int (nI (p + i))) (congrArg Value.int (h1)) ?_
              refine pX8_81 F dX8_token_156 sh_202 rfl ⟨rfl, rfl⟩ ?_
              refine K _ _ _ ?_ dX8_token_159
              have e := tEnd_of hpl h1i (by omega) hh h0 (Or.inr (Or.inl c_108))
              rw [← hp, e]
              exact ⟨⟨by rw [vm_upd_k _ _ _ (by omega)]; exact h1, by rw [vm_upd_k _ _ _ (by omega)]; exact h2, by simp [vm_upd, upd]⟩, f.up (by omega)⟩
            · have c_108 : 0 < mSrt (tb p) := by rw [i_le0] at c_108; rw [nI_toInt (srt_sm _)] at c_108; omega
              refine q_aload_n F 0 dX8_token_111 rfl rfl ?_
              refine gX8_16 F dX8_token_112 sh_202 rfl ?_
              refine q_aload_n F 0 dX8_token_115 rfl rfl ?_
              refine gX8_72 F dX8_token_116 sh_202 rfl ?_
              refine q_top (.int (nI (p + i))) (congrArg Value.int (h1)) ?_
              refine q_iald F dX8_token_119 sh_205 (by omega) (by decide) ?_
              refine q_top (.int (nI (tb (p + i)))) (congrArg Value.int (by rw [f.1 205 (by omega)]; exact (hT.2.2 _ (by omega)).1)) ?_
              refine iX8_78 F dX8_token_120 (m_sort (c := tb (p + i)) (hT.2.2 _ (by omega)).2) (by decide) rfl rfl (Nat.le_of_ble_eq_true rfl) (fun v_120 σ_120 h_120 => ?_)
              obtain ⟨rfl, h_120⟩ := h_120
              obtain rfl := h_120.symm
              refine q_aload_n F 0 dX8_token_123 rfl rfl ?_
              refine gX8_16 F dX8_token_124 sh_202 rfl ?_
              refine q_aload_n F 0 dX8_token_127 rfl rfl ?_
              refine gX8_75 F dX8_token_128 sh_202 rfl ?_
              refine q_top (.int (nI p)) (congrArg Value.int (h2)) ?_
              refine q_iald F dX8_token_131 sh_205 (by omega) (by decide) ?_
              refine q_top (.int (nI (tb p))) (congrArg Value.int (by rw [f.1 205 (by omega)]; exact (hT.2.2 _ (by omega)).1)) ?_
              refine iX8_78 F dX8_token_132 (m_sort (c := tb (p)) (hT.2.2 _ (by omega)).2) (by decide) rfl rfl (Nat.le_of_ble_eq_true rfl) (fun v_132 σ_132 h_132 => ?_)
              obtain ⟨rfl, h_132⟩ := h_132
              obtain rfl := h_132.symm
              refine n_ne F 151 dX8_token_135 (by decide) (srt_sm _) (srt_sm _) (fun c_135 => ?_) (fun c_135 => ?_)
              · refine q_aload_n F 0 dX8_token_151 rfl rfl ?_
                refine q_aload_n F 0 dX8_token_152 rfl rfl ?_
                refine gX8_72 F dX8_token_153 sh_202 rfl ?_
                refine q_top (.int (nI (p + i))) (congrArg Value.int (h1)) ?_
                refine pX8_81 F dX8_token_156 sh_202 rfl ⟨rfl, rfl⟩ ?_
                refine K _ _ _ ?_ dX8_token_159
                have e := tEnd_of hpl h1i (by omega) hh h0 (Or.inr (Or.inr ⟨by omega, c_135⟩))
                rw [← hp, e]
                exact ⟨⟨by rw [vm_upd_k _ _ _ (by omega)]; exact h1, by rw [vm_upd_k _ _ _ (by omega)]; exact h2, by simp [vm_upd, upd]⟩, f.up (by omega)⟩
              · refine q_aload_n F 0 dX8_token_138 rfl rfl ?_
                refine q_dup F dX8_token_139 rfl ?_
                refine gX8_72 F dX8_token_140 sh_202 rfl ?_
                refine q_top (.int (nI (p + i))) (congrArg Value.int (h1)) ?_
                refine q_iconst F (nI 1) dX8_token_143 (by decide) ?_
                refine n_iadd F dX8_token_144 ?_
                refine pX8_72 F dX8_token_145 sh_202 rfl ⟨rfl, rfl⟩ ?_
                refine q_goto F 85 dX8_token_148 (by decide) ?_
                refine ih (i + 1) (by omega) _ (by omega) (Or.inr c_108) (fun j hj => ?_) (by simp [vm_upd, upd, Nat.add_assoc]) (by rw [vm_upd_k _ _ _ (by omega)]; exact h2) (f.up (by omega))
                rcases Nat.lt_or_ge j i with q | q
                · exact hh j q
                · rw [show j = i by omega]; exact c_135
      exact LB (tl - p - 1) 1 (by omega) _ (by omega) (Or.inl rfl) (fun j hj => by rw [show j = 0 by omega, Nat.add_zero]) (by simp [vm_upd, upd]) (by simp [vm_upd, upd]) ((f.up (by omega)).up (by omega))
  have LA : ∀ k i, a + i + k = tl → ∀ σ2 : vm_M, (∀ j, j < i → isBl (tb (a + j)) = true) → σ2 202 12 = nI (a + i) → mFT σ σ2 → vm_Ex G C 1 0 [some (.ref 202)] [] σ2 := by
    intro k
    induction k with
    | zero =>
      intro i hi σ2 hh h1 f
      refine q_aload_n F 0 dX8_token_0 rfl rfl ?_
      refine gX8_72 F dX8_token_1 sh_202 rfl ?_
      refine q_top (.int (nI (a + i))) (congrArg Value.int (h1)) ?_
      refine q_aload_n F 0 dX8_token_4 rfl rfl ?_
      refine gX8_66 F dX8_token_5 sh_202 rfl ?_
      refine q_top (.int (nI tl)) (congrArg Value.int ((f.2 4 (by omega) (by omega) (by omega)).trans hT.1)) ?_
      refine n_ge F 52 dX8_token_8 (by decide) (by omega) (by omega) (fun c_8 => ?_) (fun c_8 => ?_)
      · exact J52 _ _ (run_all hh (by omega)).symm h1 f
      · omega
    | succ k ih =>
      intro i hi σ2 hh h1 f
      refine q_aload_n F 0 dX8_token_0 rfl rfl ?_
      refine gX8_72 F dX8_token_1 sh_202 rfl ?_
      refine q_top (.int (nI (a + i))) (congrArg Value.int (h1)) ?_
      refine q_aload_n F 0 dX8_token_4 rfl rfl ?_
      refine gX8_66 F dX8_token_5 sh_202 rfl ?_
      refine q_top (.int (nI tl)) (congrArg Value.int ((f.2 4 (by omega) (by omega) (by omega)).trans hT.1)) ?_
      refine n_ge F 52 dX8_token_8 (by decide) (by omega) (by omega) (fun c_8 => ?_) (fun c_8 => ?_)
      · omega
      · have hb6 := (hT.2.2 (a + i) (by omega)).2
        refine q_aload_n F 0 dX8_token_11 rfl rfl ?_
        refine gX8_16 F dX8_token_12 sh_202 rfl ?_
        refine q_aload_n F 0 dX8_token_15 rfl rfl ?_
        refine gX8_72 F dX8_token_16 sh_202 rfl ?_
        refine q_top (.int (nI (a + i))) (congrArg Value.int (h1)) ?_
        refine q_iald F dX8_token_19 sh_205 (by omega) (by decide) ?_
        refine q_top (.int (nI (tb (a + i)))) (congrArg Value.int (by rw [f.1 205 (by omega)]; exact (hT.2.2 _ (by omega)).1)) ?_
        refine q_bipush F (nI 32) dX8_token_20 (by decide) ?_
        refine n_eq F 39 dX8_token_22 (by decide) (by omega) (by omega) (fun c_22 => ?_) (fun c_22 => ?_)
        · refine q_aload_n F 0 dX8_token_39 rfl rfl ?_
          refine q_dup F dX8_token_40 rfl ?_
          refine gX8_72 F dX8_token_41 sh_202 rfl ?_
          refine q_top (.int (nI (a + i))) (congrArg Value.int (h1)) ?_
          refine q_iconst F (nI 1) dX8_token_44 (by decide) ?_
          refine n_iadd F dX8_token_45 ?_
          refine pX8_72 F dX8_token_46 sh_202 rfl ⟨rfl, rfl⟩ ?_
          refine q_goto F 0 dX8_token_49 (by decide) ?_
          refine ih (i + 1) (by omega) _ (fun j hj => ?_) (by simp [vm_upd, upd, Nat.add_assoc]) (f.up (by omega))
          rcases Nat.lt_or_ge j i with q | q
          · exact hh j q
          · rw [show j = i by omega]
            unfold isBl
            simp [c_8, c_22]
        · refine q_aload_n F 0 dX8_token_25 rfl rfl ?_
          refine gX8_16 F dX8_token_26 sh_202 rfl ?_
          refine q_aload_n F 0 dX8_token_29 rfl rfl ?_
          refine gX8_72 F dX8_token_30 sh_202 rfl ?_
          refine q_top (.int (nI (a + i))) (congrArg Value.int (h1)) ?_
          refine q_iald F dX8_token_33 sh_205 (by omega) (by decide) ?_
          refine q_top (.int (nI (tb (a + i)))) (congrArg Value.int (by rw [f.1 205 (by omega)]; exact (hT.2.2 _ (by omega)).1)) ?_
          refine q_bipush F (nI 10) dX8_token_34 (by decide) ?_
          refine n_ne F 52 dX8_token_36 (by decide) (by omega) (by omega) (fun c_36 => ?_) (fun c_36 => ?_)
          · exact J52 _ _ (run_at hh (by omega) (by unfold isBl; simp; exact ⟨c_22, c_36⟩)).symm h1 f
          · refine q_aload_n F 0 dX8_token_39 rfl rfl ?_
            refine q_dup F dX8_token_40 rfl ?_
            refine gX8_72 F dX8_token_41 sh_202 rfl ?_
            refine q_top (.int (nI (a + i))) (congrArg Value.int (h1)) ?_
            refine q_iconst F (nI 1) dX8_token_44 (by decide) ?_
            refine n_iadd F dX8_token_45 ?_
            refine pX8_72 F dX8_token_46 sh_202 rfl ⟨rfl, rfl⟩ ?_
            refine q_goto F 0 dX8_token_49 (by decide) ?_
            refine ih (i + 1) (by omega) _ (fun j hj => ?_) (by simp [vm_upd, upd, Nat.add_assoc]) (f.up (by omega))
            rcases Nat.lt_or_ge j i with q | q
            · exact hh j q
            · rw [show j = i by omega]
              unfold isBl
              simp [c_8, c_22, c_36]
  exact LA (tl - a) 0 (by omega) _ (fun j hj => absurd hj (Nat.not_lt_zero _)) h mFT.rf
theorem m_tok {G : vm_G} {σ : vm_M} {tl : Nat} {tb : Nat → Nat} (hT : mRd σ tl tb) {k k' : Nat} (hk : mTk σ tl tb k) (hk' : k' = k + 1) : vm_RV G 1 mX8_token [.ref 202] σ (fun σ' => mTk σ' tl tb k' ∧ mFT σ σ') := by
  subst hk'
  exact m_token hT (tEnd_le (tQ_le tl tb k)).2 hk.1
theorem m_tok0 {G : vm_G} {σ : vm_M} {tl : Nat} {tb : Nat → Nat} (hT : mRd σ tl tb) (h : σ 202 12 = nI 0) : vm_RV G 1 mX8_token [.ref 202] σ (fun σ' => mTk σ' tl tb 0 ∧ mFT σ σ') :=
  m_token hT (Nat.zero_le _) h
