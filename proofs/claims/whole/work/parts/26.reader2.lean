/-- the reader stands at the token that begins at p -/
def tokAt (tl : Nat) (tb : Nat → Nat) (p : Nat) (r : rd_V) : Prop := r.1 = tEnd tl tb p ∧ r.2.1 = p ∧ r.2.2.1 = tTy tl tb p ∧ (tTy tl tb p = 2 → r.2.2.2.1 = tVal tb p (tEnd tl tb p - p)) ∧ p ≤ tl
theorem cTape.rd {σ : vm_M} {tl : Nat} {tb : Nat → Nat} {r : rd_V} (h : cTape σ tl tb) : cTape (vm_Rd σ r) tl tb := h.fr (vm_Rd_n (by omega)) (vm_Rd_n (by omega))
set_option maxHeartbeats 4000000 in
set_option maxRecDepth 100000 in
theorem c_next {G : vm_G} {σ : vm_M} {tl : Nat} {tb : Nat → Nat} (hT : cTape σ tl tb) {a f t v x : Nat} (ha : a ≤ tl) : vm_RV G 2 mX3_next [.ref 2] (vm_Rd σ (a, f, t, v, x)) (fun σ' => ∃ r : rd_V, σ' = vm_Rd σ r ∧ tokAt tl tb (tSk tl tb a) r ∧ r.2.2.2.2 = x) := by
  refine vm_void (y := mX3_next) (by decide) (Nat.le_of_ble_eq_true rfl) (ls0 := [some (.ref 2)]) rfl rfl (fun C F K => ?_)
  have F : vm_F G C cX3_next RX3 1 _ := F
  show vm_Ex G C 1 0 [some (.ref 2)] [] _
  have h400 := hT.2.1
  have J : ∀ p, p ≤ tl → p = tSk tl tb a → vm_Ex G C 1 45 [some (.ref 2)] [] (vm_Rd σ (p, f, t, v, x)) := by
    intro p hp ep
    rw [← ep] at K
    refine q_aload_n F 0 dX3_next_45 rfl rfl ?_
    refine q_aload_n F 0 dX3_next_46 rfl rfl ?_
    refine grX3_18 F dX3_next_47 ?_
    refine prX3_22 F dX3_next_50 ?_
    refine q_aload_n F 0 dX3_next_53 rfl rfl ?_
    refine grX3_18 F dX3_next_54 ?_
    refine q_aload_n F 0 dX3_next_57 rfl rfl ?_
    refine gX3_12 F dX3_next_58 sh_2 rfl ?_
    refine gX3_117 F dX3_next_61 sh_3 rfl ?_
    refine q_top (.int (nI tl)) (congrArg Value.int (by rw [vm_Rd_n (by omega)]; exact hT.1)) ?_
    refine n_lt F 75 dX3_next_64 (by decide) (by omega) (by omega) (fun c_64 => ?_) (fun c_64 => ?_)
    · have c_64 : ¬ p = tl := by omega
      refine q_aload_n F 0 dX3_next_75 rfl rfl ?_
      refine gX3_12 F dX3_next_76 sh_2 rfl ?_
      refine gX3_120 F dX3_next_79 sh_3 rfl ?_
      refine q_aload_n F 0 dX3_next_82 rfl rfl ?_
      refine grX3_18 F dX3_next_83 ?_
      refine q_cald F dX3_next_86 sh_4 (by omega) (by decide) ?_
      refine q_top (.int (nI (tb (p)))) (congrArg Value.int (by rw [vm_Rd_n (by omega)]; exact (hT.2.2 _ (by omega)).1)) ?_
      refine iX3_128 F dX3_next_87 (c_isLetter (hT.2.2 _ (by omega)).2) (by decide) rfl rfl (Nat.le_of_ble_eq_true rfl) (fun v_87 σ_87 h_87 => ?_)
      obtain ⟨rfl, rfl⟩ := h_87
      refine b_eq F 143 dX3_next_90 (by decide) (fun c_90 => ?_) (fun c_90 => ?_)
      · refine q_aload_n F 0 dX3_next_143 rfl rfl ?_
        refine gX3_12 F dX3_next_144 sh_2 rfl ?_
        refine gX3_120 F dX3_next_147 sh_3 rfl ?_
        refine q_aload_n F 0 dX3_next_150 rfl rfl ?_
        refine grX3_18 F dX3_next_151 ?_
        refine q_cald F dX3_next_154 sh_4 (by omega) (by decide) ?_
        refine q_top (.int (nI (tb (p)))) (congrArg Value.int (by rw [vm_Rd_n (by omega)]; exact (hT.2.2 _ (by omega)).1)) ?_
        refine iX3_131 F dX3_next_155 (c_isFigure (hT.2.2 _ (by omega)).2) (by decide) rfl rfl (Nat.le_of_ble_eq_true rfl) (fun v_155 σ_155 h_155 => ?_)
        obtain ⟨rfl, rfl⟩ := h_155
        refine b_eq F 263 dX3_next_158 (by decide) (fun c_158 => ?_) (fun c_158 => ?_)
        · refine q_aload_n F 0 dX3_next_263 rfl rfl ?_
          refine q_aload_n F 0 dX3_next_264 rfl rfl ?_
          refine gX3_12 F dX3_next_265 sh_2 rfl ?_
          refine gX3_120 F dX3_next_268 sh_3 rfl ?_
          refine q_aload_n F 0 dX3_next_271 rfl rfl ?_
          refine grX3_18 F dX3_next_272 ?_
          refine q_cald F dX3_next_275 sh_4 (by omega) (by decide) ?_
          refine q_top (.int (nI (tb (p)))) (congrArg Value.int (by rw [vm_Rd_n (by omega)]; exact (hT.2.2 _ (by omega)).1)) ?_
          refine q_bipush F (nI 59) dX3_next_276 (by decide) ?_
          refine n_ne F 285 dX3_next_278 (by decide) (by have := (hT.2.2 p (by omega)).2; omega) (by omega) (fun c_278 => ?_) (fun c_278 => ?_)
          · refine q_iconst F (nI 4) dX3_next_285 (by decide) ?_
            refine prX3_25 F dX3_next_286 ?_
            refine q_aload_n F 0 dX3_next_289 rfl rfl ?_
            refine q_dup F dX3_next_290 rfl ?_
            refine grX3_18 F dX3_next_291 ?_
            refine q_iconst F (nI 1) dX3_next_294 (by decide) ?_
            refine n_iadd F dX3_next_295 ?_
            refine prX3_18 F dX3_next_296 ?_
            refine K _ _ _ ?_ dX3_next_299
            have ety : tTy tl tb p = 4 := by rw [tTy, if_neg c_64, if_neg (by simp [c_90]), if_neg (by simp [c_158]), if_neg c_278]
            exact ⟨_, rfl, ⟨by simp only [tEnd, if_neg c_64, c_90, c_158, Bool.false_eq_true, if_false], rfl, ety.symm, fun z => absurd (ety.symm.trans z) (by decide), hp⟩, rfl⟩
          · refine q_iconst F (nI 3) dX3_next_281 (by decide) ?_
            refine q_goto F 286 dX3_next_282 (by decide) ?_
            refine prX3_25 F dX3_next_286 ?_
            refine q_aload_n F 0 dX3_next_289 rfl rfl ?_
            refine q_dup F dX3_next_290 rfl ?_
            refine grX3_18 F dX3_next_291 ?_
            refine q_iconst F (nI 1) dX3_next_294 (by decide) ?_
            refine n_iadd F dX3_next_295 ?_
            refine prX3_18 F dX3_next_296 ?_
            refine K _ _ _ ?_ dX3_next_299
            have ety : tTy tl tb p = 3 := by rw [tTy, if_neg c_64, if_neg (by simp [c_90]), if_neg (by simp [c_158]), if_pos c_278]
            exact ⟨_, rfl, ⟨by simp only [tEnd, if_neg c_64, c_90, c_158, Bool.false_eq_true, if_false], rfl, ety.symm, fun z => absurd (ety.symm.trans z) (by decide), hp⟩, rfl⟩
        · refine q_aload_n F 0 dX3_next_161 rfl rfl ?_
          refine q_iconst F (nI 0) dX3_next_162 (by decide) ?_
          refine prX3_28 F dX3_next_163 ?_
          have LD : ∀ m i, (∀ k, k < i → isFi (tb (p + k)) = true) → p + i + m = tl → vm_Ex G C 1 166 [some (.ref 2)] [] (vm_Rd σ (p + i, p, t, tVal tb p i, x)) := by
            intro m
            induction m with
            | zero =>
              intro i hh hi
              refine q_aload_n F 0 dX3_next_166 rfl rfl ?_
              refine grX3_18 F dX3_next_167 ?_
              refine q_aload_n F 0 dX3_next_170 rfl rfl ?_
              refine gX3_12 F dX3_next_171 sh_2 rfl ?_
              refine gX3_117 F dX3_next_174 sh_3 rfl ?_
              refine q_top (.int (nI tl)) (congrArg Value.int (by rw [vm_Rd_n (by omega)]; exact hT.1)) ?_
              refine n_ge F 238 dX3_next_177 (by decide) (by omega) (by omega) (fun c_177 => ?_) (fun c_177 => ?_)
              · refine q_aload_n F 0 dX3_next_238 rfl rfl ?_
                refine q_aload_n F 0 dX3_next_239 rfl rfl ?_
                refine grX3_18 F dX3_next_240 ?_
                refine q_aload_n F 0 dX3_next_243 rfl rfl ?_
                refine grX3_22 F dX3_next_244 ?_
                refine n_isub F dX3_next_247 (by omega) ?_
                refine q_iconst F (nI 3) dX3_next_248 (by decide) ?_
                refine n_gt F 256 dX3_next_249 (by decide) (by omega) (by omega) (fun c_249 => ?_) (fun c_249 => ?_)
                · refine q_iconst F (nI 4) dX3_next_256 (by decide) ?_
                  refine prX3_25 F dX3_next_257 ?_
                  refine q_goto F 299 dX3_next_260 (by decide) ?_
                  refine K _ _ _ ?_ dX3_next_299
                  have e9 : tRun isFi tl tb p = p + i := run_all hh (by omega)
                  have eE : tEnd tl tb p = p + i := by simp only [tEnd, if_neg c_64, c_90, c_158, Bool.false_eq_true, if_false, if_true, e9]
                  have eT : tTy tl tb p = 4 := by rw [tTy, if_neg c_64, if_neg (by simp [c_90]), if_pos c_158, e9, if_neg (by omega)]
                  exact ⟨_, rfl, ⟨eE.symm, rfl, eT.symm, fun z => by show tVal tb p i = _; rw [eE, Nat.add_sub_cancel_left], hp⟩, rfl⟩
                · refine q_iconst F (nI 2) dX3_next_252 (by decide) ?_
                  refine q_goto F 257 dX3_next_253 (by decide) ?_
                  refine prX3_25 F dX3_next_257 ?_
                  refine q_goto F 299 dX3_next_260 (by decide) ?_
                  refine K _ _ _ ?_ dX3_next_299
                  have e9 : tRun isFi tl tb p = p + i := run_all hh (by omega)
                  have eE : tEnd tl tb p = p + i := by simp only [tEnd, if_neg c_64, c_90, c_158, Bool.false_eq_true, if_false, if_true, e9]
                  have eT : tTy tl tb p = 2 := by rw [tTy, if_neg c_64, if_neg (by simp [c_90]), if_pos c_158, e9, if_pos (by omega)]
                  exact ⟨_, rfl, ⟨eE.symm, rfl, eT.symm, fun z => by show tVal tb p i = _; rw [eE, Nat.add_sub_cancel_left], hp⟩, rfl⟩
              · omega
            | succ m ih =>
              intro i hh hi
              refine q_aload_n F 0 dX3_next_166 rfl rfl ?_
              refine grX3_18 F dX3_next_167 ?_
              refine q_aload_n F 0 dX3_next_170 rfl rfl ?_
              refine gX3_12 F dX3_next_171 sh_2 rfl ?_
              refine gX3_117 F dX3_next_174 sh_3 rfl ?_
              refine q_top (.int (nI tl)) (congrArg Value.int (by rw [vm_Rd_n (by omega)]; exact hT.1)) ?_
              refine n_ge F 238 dX3_next_177 (by decide) (by omega) (by omega) (fun c_177 => ?_) (fun c_177 => ?_)
              · omega
              · refine q_aload_n F 0 dX3_next_180 rfl rfl ?_
                refine gX3_12 F dX3_next_181 sh_2 rfl ?_
                refine gX3_120 F dX3_next_184 sh_3 rfl ?_
                refine q_aload_n F 0 dX3_next_187 rfl rfl ?_
                refine grX3_18 F dX3_next_188 ?_
                refine q_cald F dX3_next_191 sh_4 (by omega) (by decide) ?_
                refine q_top (.int (nI (tb (p + i)))) (congrArg Value.int (by rw [vm_Rd_n (by omega)]; exact (hT.2.2 _ (by omega)).1)) ?_
                refine iX3_131 F dX3_next_192 (c_isFigure (hT.2.2 _ (by omega)).2) (by decide) rfl rfl (Nat.le_of_ble_eq_true rfl) (fun v_192 σ_192 h_192 => ?_)
                obtain ⟨rfl, rfl⟩ := h_192
                refine b_eq F 238 dX3_next_195 (by decide) (fun c_195 => ?_) (fun c_195 => ?_)
                · refine q_aload_n F 0 dX3_next_238 rfl rfl ?_
                  refine q_aload_n F 0 dX3_next_239 rfl rfl ?_
                  refine grX3_18 F dX3_next_240 ?_
                  refine q_aload_n F 0 dX3_next_243 rfl rfl ?_
                  refine grX3_22 F dX3_next_244 ?_
                  refine n_isub F dX3_next_247 (by omega) ?_
                  refine q_iconst F (nI 3) dX3_next_248 (by decide) ?_
                  refine n_gt F 256 dX3_next_249 (by decide) (by omega) (by omega) (fun c_249 => ?_) (fun c_249 => ?_)
                  · refine q_iconst F (nI 4) dX3_next_256 (by decide) ?_
                    refine prX3_25 F dX3_next_257 ?_
                    refine q_goto F 299 dX3_next_260 (by decide) ?_
                    refine K _ _ _ ?_ dX3_next_299
                    have e9 : tRun isFi tl tb p = p + i := run_at hh (by omega) c_195
                    have eE : tEnd tl tb p = p + i := by simp only [tEnd, if_neg c_64, c_90, c_158, Bool.false_eq_true, if_false, if_true, e9]
                    have eT : tTy tl tb p = 4 := by rw [tTy, if_neg c_64, if_neg (by simp [c_90]), if_pos c_158, e9, if_neg (by omega)]
                    exact ⟨_, rfl, ⟨eE.symm, rfl, eT.symm, fun z => by show tVal tb p i = _; rw [eE, Nat.add_sub_cancel_left], hp⟩, rfl⟩
                  · refine q_iconst F (nI 2) dX3_next_252 (by decide) ?_
                    refine q_goto F 257 dX3_next_253 (by decide) ?_
                    refine prX3_25 F dX3_next_257 ?_
                    refine q_goto F 299 dX3_next_260 (by decide) ?_
                    refine K _ _ _ ?_ dX3_next_299
                    have e9 : tRun isFi tl tb p = p + i := run_at hh (by omega) c_195
                    have eE : tEnd tl tb p = p + i := by simp only [tEnd, if_neg c_64, c_90, c_158, Bool.false_eq_true, if_false, if_true, e9]
                    have eT : tTy tl tb p = 2 := by rw [tTy, if_neg c_64, if_neg (by simp [c_90]), if_pos c_158, e9, if_pos (by omega)]
                    exact ⟨_, rfl, ⟨eE.symm, rfl, eT.symm, fun z => by show tVal tb p i = _; rw [eE, Nat.add_sub_cancel_left], hp⟩, rfl⟩
                · have h48 : 48 ≤ tb (p + i) := by have := c_195; simp [isFi] at this; exact this.1
                  refine q_aload_n F 0 dX3_next_198 rfl rfl ?_
                  refine q_bipush F (nI 10) dX3_next_199 (by decide) ?_
                  refine q_aload_n F 0 dX3_next_201 rfl rfl ?_
                  refine grX3_28 F dX3_next_202 ?_
                  refine n_imul F dX3_next_205 ?_
                  refine q_aload_n F 0 dX3_next_206 rfl rfl ?_
                  refine gX3_12 F dX3_next_207 sh_2 rfl ?_
                  refine gX3_120 F dX3_next_210 sh_3 rfl ?_
                  refine q_aload_n F 0 dX3_next_213 rfl rfl ?_
                  refine grX3_18 F dX3_next_214 ?_
                  refine q_cald F dX3_next_217 sh_4 (by omega) (by decide) ?_
                  refine q_top (.int (nI (tb (p + i)))) (congrArg Value.int (by rw [vm_Rd_n (by omega)]; exact (hT.2.2 _ (by omega)).1)) ?_
                  refine q_bipush F (nI 48) dX3_next_218 (by decide) ?_
                  refine n_isub F dX3_next_220 (by omega) ?_
                  refine n_iadd F dX3_next_221 ?_
                  refine prX3_28 F dX3_next_222 ?_
                  refine q_aload_n F 0 dX3_next_225 rfl rfl ?_
                  refine q_dup F dX3_next_226 rfl ?_
                  refine grX3_18 F dX3_next_227 ?_
                  refine q_iconst F (nI 1) dX3_next_230 (by decide) ?_
                  refine n_iadd F dX3_next_231 ?_
                  refine prX3_18 F dX3_next_232 ?_
                  refine q_goto F 166 dX3_next_235 (by decide) ?_
                  exact ih (i + 1) (fun k hk => by
                    rcases Nat.lt_or_ge k i with q | q
                    · exact hh k q
                    · rw [show k = i by omega]; exact c_195) (by omega)
          exact LD (tl - p) 0 (fun k hk => absurd hk (Nat.not_lt_zero _)) (by omega)
      · refine q_aload_n F 0 dX3_next_93 rfl rfl ?_
        refine q_iconst F (nI 1) dX3_next_94 (by decide) ?_
        refine prX3_25 F dX3_next_95 ?_
        have LN : ∀ m i, (∀ k, k < i → isLe (tb (p + k)) = true) → p + i + m = tl → vm_Ex G C 1 98 [some (.ref 2)] [] (vm_Rd σ (p + i, p, 1, v, x)) := by
          intro m
          induction m with
          | zero =>
            intro i hh hi
            refine q_aload_n F 0 dX3_next_98 rfl rfl ?_
            refine grX3_18 F dX3_next_99 ?_
            refine q_aload_n F 0 dX3_next_102 rfl rfl ?_
            refine gX3_12 F dX3_next_103 sh_2 rfl ?_
            refine gX3_117 F dX3_next_106 sh_3 rfl ?_
            refine q_top (.int (nI tl)) (congrArg Value.int (by rw [vm_Rd_n (by omega)]; exact hT.1)) ?_
            refine n_ge F 299 dX3_next_109 (by decide) (by omega) (by omega) (fun c_109 => ?_) (fun c_109 => ?_)
            · refine K _ _ _ ?_ dX3_next_299
              have e9 : tRun isLe tl tb p = p + i := run_all hh (by omega)
              exact ⟨_, rfl, ⟨by simp only [tEnd, if_neg c_64, if_pos c_90, e9], rfl, by simp only [tTy, if_neg c_64, if_pos c_90], fun z => by simp only [tTy, if_neg c_64, if_pos c_90] at z; omega, hp⟩, rfl⟩
            · omega
          | succ m ih =>
            intro i hh hi
            refine q_aload_n F 0 dX3_next_98 rfl rfl ?_
            refine grX3_18 F dX3_next_99 ?_
            refine q_aload_n F 0 dX3_next_102 rfl rfl ?_
            refine gX3_12 F dX3_next_103 sh_2 rfl ?_
            refine gX3_117 F dX3_next_106 sh_3 rfl ?_
            refine q_top (.int (nI tl)) (congrArg Value.int (by rw [vm_Rd_n (by omega)]; exact hT.1)) ?_
            refine n_ge F 299 dX3_next_109 (by decide) (by omega) (by omega) (fun c_109 => ?_) (fun c_109 => ?_)
            · omega
            · refine q_aload_n F 0 dX3_next_112 rfl rfl ?_
              refine gX3_12 F dX3_next_113 sh_2 rfl ?_
              refine gX3_120 F dX3_next_116 sh_3 rfl ?_
              refine q_aload_n F 0 dX3_next_119 rfl rfl ?_
              refine grX3_18 F dX3_next_120 ?_
              refine q_cald F dX3_next_123 sh_4 (by omega) (by decide) ?_
              refine q_top (.int (nI (tb (p + i)))) (congrArg Value.int (by rw [vm_Rd_n (by omega)]; exact (hT.2.2 _ (by omega)).1)) ?_
              refine iX3_128 F dX3_next_124 (c_isLetter (hT.2.2 _ (by omega)).2) (by decide) rfl rfl (Nat.le_of_ble_eq_true rfl) (fun v_124 σ_124 h_124 => ?_)
              obtain ⟨rfl, rfl⟩ := h_124
              refine b_eq F 299 dX3_next_127 (by decide) (fun c_127 => ?_) (fun c_127 => ?_)
              · refine K _ _ _ ?_ dX3_next_299
                have e9 : tRun isLe tl tb p = p + i := run_at hh (by omega) c_127
                exact ⟨_, rfl, ⟨by simp only [tEnd, if_neg c_64, if_pos c_90, e9], rfl, by simp only [tTy, if_neg c_64, if_pos c_90], fun z => by simp only [tTy, if_neg c_64, if_pos c_90] at z; omega, hp⟩, rfl⟩
              · refine q_aload_n F 0 dX3_next_130 rfl rfl ?_
                refine q_dup F dX3_next_131 rfl ?_
                refine grX3_18 F dX3_next_132 ?_
                refine q_iconst F (nI 1) dX3_next_135 (by decide) ?_
                refine n_iadd F dX3_next_136 ?_
                refine prX3_18 F dX3_next_137 ?_
                refine q_goto F 98 dX3_next_140 (by decide) ?_
                exact ih (i + 1) (fun k hk => by
                  rcases Nat.lt_or_ge k i with q | q
                  · exact hh k q
                  · rw [show k = i by omega]; exact c_127) (by omega)
        exact LN (tl - p) 0 (fun k hk => absurd hk (Nat.not_lt_zero _)) (by omega)
    · have c_64 : p = tl := by omega
      refine q_aload_n F 0 dX3_next_67 rfl rfl ?_
      refine q_iconst F (nI 0) dX3_next_68 (by decide) ?_
      refine prX3_25 F dX3_next_69 ?_
      refine q_goto F 299 dX3_next_72 (by decide) ?_
      refine K _ _ _ ?_ dX3_next_299
      subst c_64
      exact ⟨_, rfl, ⟨by simp only [tEnd, if_true], rfl, by simp only [tTy, if_true], fun z => by simp only [tTy, if_true] at z; omega, hp⟩, rfl⟩
  have L : ∀ m i, (∀ k, k < i → isBl (tb (a + k)) = true) → a + i + m = tl → vm_Ex G C 1 0 [some (.ref 2)] [] (vm_Rd σ (a + i, f, t, v, x)) := by
    intro m
    induction m with
    | zero =>
      intro i hh hi
      refine q_aload_n F 0 dX3_next_0 rfl rfl ?_
      refine grX3_18 F dX3_next_1 ?_
      refine q_aload_n F 0 dX3_next_4 rfl rfl ?_
      refine gX3_12 F dX3_next_5 sh_2 rfl ?_
      refine gX3_117 F dX3_next_8 sh_3 rfl ?_
      refine q_top (.int (nI tl)) (congrArg Value.int (by rw [vm_Rd_n (by omega)]; exact hT.1)) ?_
      refine n_ge F 45 dX3_next_11 (by decide) (by omega) (by omega) (fun c_11 => ?_) (fun c_11 => ?_)
      · exact J _ (by omega) (run_all hh (by omega)).symm
      · omega
    | succ m ih =>
      intro i hh hi
      refine q_aload_n F 0 dX3_next_0 rfl rfl ?_
      refine grX3_18 F dX3_next_1 ?_
      refine q_aload_n F 0 dX3_next_4 rfl rfl ?_
      refine gX3_12 F dX3_next_5 sh_2 rfl ?_
      refine gX3_117 F dX3_next_8 sh_3 rfl ?_
      refine q_top (.int (nI tl)) (congrArg Value.int (by rw [vm_Rd_n (by omega)]; exact hT.1)) ?_
      refine n_ge F 45 dX3_next_11 (by decide) (by omega) (by omega) (fun c_11 => ?_) (fun c_11 => ?_)
      · omega
      · refine q_aload_n F 0 dX3_next_14 rfl rfl ?_
        refine gX3_12 F dX3_next_15 sh_2 rfl ?_
        refine gX3_120 F dX3_next_18 sh_3 rfl ?_
        refine q_aload_n F 0 dX3_next_21 rfl rfl ?_
        refine grX3_18 F dX3_next_22 ?_
        refine q_cald F dX3_next_25 sh_4 (by omega) (by decide) ?_
        refine q_top (.int (nI (tb (a + i)))) (congrArg Value.int (by rw [vm_Rd_n (by omega)]; exact (hT.2.2 _ (by omega)).1)) ?_
        refine iX3_124 F dX3_next_26 (c_isBlank (hT.2.2 _ (by omega)).2) (by decide) rfl rfl (Nat.le_of_ble_eq_true rfl) (fun v_26 σ_26 h_26 => ?_)
        obtain ⟨rfl, rfl⟩ := h_26
        refine b_eq F 45 dX3_next_29 (by decide) (fun c_29 => ?_) (fun c_29 => ?_)
        · exact J _ (by omega) (run_at hh (by omega) c_29).symm
        · refine q_aload_n F 0 dX3_next_32 rfl rfl ?_
          refine q_dup F dX3_next_33 rfl ?_
          refine grX3_18 F dX3_next_34 ?_
          refine q_iconst F (nI 1) dX3_next_37 (by decide) ?_
          refine n_iadd F dX3_next_38 ?_
          refine prX3_18 F dX3_next_39 ?_
          refine q_goto F 0 dX3_next_42 (by decide) ?_
          exact ih (i + 1) (fun k hk => by
            rcases Nat.lt_or_ge k i with q | q
            · exact hh k q
            · rw [show k = i by omega]; exact c_29) (by omega)
  exact L (tl - a) 0 (fun k hk => absurd hk (Nat.not_lt_zero _)) (by omega)
