theorem by_s : ∀ i, i < 8 → ((nI (8 * i)).toInt64.toUInt64 &&& Int64.toUInt64 63).toNat = 8 * i := by decide +kernel
theorem by_c : ∀ m, m < 256 → ((lN m).toInt32.toUInt32 % 65536).toInt32 = nI m := by decide +kernel
theorem sByte_lt (w : Int64) (i : Nat) : sByte w i < 256 := Nat.mod_lt _ (by decide)
theorem by_val {w : Int64} {i : Nat} (hi : i < 8) : (w.toUInt64 >>> ((nI (8 * i)).toInt64.toUInt64 &&& Int64.toUInt64 63)).toInt64 &&& 255 = lN (sByte w i) := by
  apply Int64.toBitVec_inj.1
  apply BitVec.eq_of_toNat_eq
  rw [Int64.toBitVec_and, BitVec.toNat_and]
  show (w.toUInt64 >>> ((nI (8 * i)).toInt64.toUInt64 &&& Int64.toUInt64 63)).toNat &&& 255 = (BitVec.ofNat 64 (sByte w i)).toNat
  rw [UInt64.toNat_shiftRight, by_s i hi, Nat.mod_eq_of_lt (by omega), Nat.shiftRight_eq_div_pow, BitVec.toNat_ofNat, Nat.mod_eq_of_lt (Nat.lt_trans (sByte_lt w i) (by decide))]
  exact Nat.and_two_pow_sub_one_eq_mod _ 8
theorem by_byte {w : Int64} {i : Nat} (hi : i < 8) : ((((w.toUInt64 >>> ((nI (8 * i)).toInt64.toUInt64 &&& Int64.toUInt64 63)).toInt64 &&& 255).toInt32).toUInt32 % 65536).toInt32 = nI (sByte w i) := by
  rw [by_val hi]
  exact by_c _ (sByte_lt w i)
theorem vm_upd_j (σ : vm_M) {a j : Nat} (k : Nat) (v : Int32) (h : j ≠ k) : vm_upd σ a k v a j = σ a j := by simp [vm_upd, upd, h]
set_option maxHeartbeats 800000 in
set_option maxRecDepth 100000 in
theorem k_feed {G : vm_G} {σ : vm_M} {T : vm_T} (hC : CInv σ T) (hI : SInv T) (w : Int64) (n : Int32) : vm_RI G 1 mX7_feed [.ref 0, .long w, .int n] σ (cPost σ (aFeed T w n)) := by
  refine vm_int (y := mX7_feed) (by decide) (Nat.le_of_ble_eq_true rfl) (ls0 := [some (.ref 0), some (.long w), none, some (.int n), none, none]) rfl rfl (fun C F K => ?_)
  have F : vm_F G C cX7_feed RX7 6 _ := F
  show vm_Ex G C 6 0 [some (.ref 0), some (.long w), none, some (.int n), none, none] [] _
  obtain ⟨hRows, hTape, hNow, hPast, hImg, hTr, hFlt, hFnd, hDr⟩ := id hC
  have hN := hNow.2
  have hOk : sOk (T_nw T) := hI.1.1
  have hn6 : V_n (T_nw T) ≤ 6 := hOk.1
  refine q_iload_n F 3 dX7_feed_0 rfl rfl ?_
  refine q_iconst F (nI 1) dX7_feed_1 (by decide) ?_
  refine q_icmp_lt F 11 dX7_feed_2 (by decide) (fun c_2 => ?_) (fun c_2 => ?_)
  · refine q_ldc F dX7_feed_11 wX7_80 ?_
    refine K _ _ _ _ ?_ dX7_feed_13 rfl
    have e : aFeed T w n = (sBAD, T) := by
      unfold aFeed
      rw [if_pos (by rw [i_lt (by decide)] at c_2; omega)]
    rw [e]
    exact ⟨rfl, hC, fun _ _ => rfl⟩
  · refine q_iload_n F 3 dX7_feed_5 rfl rfl ?_
    refine q_bipush F (nI 8) dX7_feed_6 (by decide) ?_
    refine q_icmp_le F 14 dX7_feed_8 (by decide) (fun c_8 => ?_) (fun c_8 => ?_)
    · have hn1 : ¬ n.toInt < 1 := by rw [i_lt (by decide)] at c_2; exact c_2
      have hn8 : n.toInt ≤ 8 := by rw [i_le (by decide)] at c_8; exact c_8
      obtain ⟨m, hm, rfl⟩ := i_of (show 0 ≤ n.toInt by omega)
      have hxm := xN_nI hm
      have hm8 : m ≤ 8 := by rw [nI_toInt hm] at hn8; omega
      have hm1 : 1 ≤ m := by rw [nI_toInt hm] at hn1; omega
      have h400 := hTape.2.1
      refine q_aload_n F 0 dX7_feed_14 rfl rfl ?_
      refine gX7_18 F dX7_feed_15 sh_0 rfl ?_
      refine gX7_117 F dX7_feed_18 sh_2 rfl ?_
      refine q_astore4 F dX7_feed_21 (by decide) rfl ?_
      refine q_aload F 4 dX7_feed_23 rfl ?_
      refine gX7_121 F dX7_feed_25 sh_3 rfl ?_
      refine q_top (.int (nI (T_tl T))) (congrArg Value.int (hTape.1)) ?_
      refine q_iload_n F 3 dX7_feed_28 rfl rfl ?_
      refine n_iadd F dX7_feed_29 ?_
      refine q_sipush F (nI 400) dX7_feed_30 (by decide) ?_
      refine n_le F 39 dX7_feed_33 (by decide) (by omega) (by omega) (fun c_33 => ?_) (fun c_33 => ?_)
      · refine q_iload_n F 3 dX7_feed_39 rfl rfl ?_
        refine q_iconst F (nI 1) dX7_feed_40 (by decide) ?_
        refine n_isub F dX7_feed_41 hm1 ?_
        refine q_istore5 F dX7_feed_42 (by decide) rfl ?_
        have L : ∀ k d, ∀ σ2 : vm_M, σ2 3 1 = nI (T_tl T + d) → (∀ j, j < T_tl T + d → σ2 4 j = nI ((fun j => if T_tl T ≤ j ∧ j < T_tl T + m then sByte w (m - 1 - (j - T_tl T)) else T_tb T j) j)) → (∀ o, o ≠ 3 → o ≠ 4 → σ2 o = σ o) → d + k = m → vm_Ex G C 6 44 [some (.ref 0), some (.long w), none, some (.int (nI m)), some (.ref 3), some (.int (nI k + Int32.ofInt (-1)))] [] σ2 := by
          intro k
          induction k with
          | zero =>
            intro d σ2 g1 g2 g3 hi
            refine q_iload F 5 dX7_feed_44 rfl ?_
            refine q_if_lt F 73 dX7_feed_46 (by decide) (fun c_46 => ?_) (fun c_46 => ?_)
            · refine q_aload F 4 dX7_feed_73 rfl ?_
              refine gX7_121 F dX7_feed_75 sh_3 rfl ?_
              refine q_top (.int (nI (T_tl T + d))) (congrArg Value.int (g1)) ?_
              refine K _ _ _ _ ?_ dX7_feed_78 rfl
              have ed : d = m := by omega
              subst ed
              have e : aFeed T w (nI d) = (nI (T_tl T + d), sT_tape T (T_tl T + d) (fun j => if T_tl T ≤ j ∧ j < T_tl T + d then sByte w (d - 1 - (j - T_tl T)) else T_tb T j)) := by
                unfold aFeed
                rw [hxm, if_neg (by rw [nI_toInt (by omega)]; omega), if_neg (by omega)]
              rw [e]
              obtain ⟨vd, hvd, hkd⟩ := hDr
              have f0 := g3 0 (by omega) (by omega)
              refine ⟨rfl, ⟨hRows.fr (fun o a b => g3 o (by omega) (by omega)), ⟨g1, c_33, fun j hj => ⟨g2 j hj, ?_⟩⟩, hNow.fr (by rw [f0]) (fun o a b => g3 o (by omega) (by omega)), hPast.fr (fun o a b => g3 o (by omega) (by omega)), hImg.fr (g3 24 (by omega) (by omega)) (fun o a b => g3 o (by omega) (by omega)), hTr.fr (g3 171 (by omega) (by omega)) (g3 172 (by omega) (by omega)), by rw [f0]; exact hFlt, by rw [f0]; exact hFnd, vd, hvd.fr (fun o a b => g3 o (by omega) (by omega)), hkd⟩, fun o ho => g3 o (by omega) (by omega)⟩
              show (if T_tl T ≤ j ∧ j < T_tl T + d then sByte w (d - 1 - (j - T_tl T)) else T_tb T j) < 256
              split
              · exact sByte_lt _ _
              · next hq => exact (hTape.2.2 j (by have : j < T_tl T + d := hj; omega)).2
            · exact absurd (show nI 0 + Int32.ofInt (-1) < 0 by decide) c_46
          | succ k ih =>
            intro d σ2 g1 g2 g3 hi
            rw [nI_dec]
            refine q_iload F 5 dX7_feed_44 rfl ?_
            refine q_if_lt F 73 dX7_feed_46 (by decide) (fun c_46 => ?_) (fun c_46 => ?_)
            · exact absurd c_46 (nI_pos (by omega))
            · refine q_aload F 4 dX7_feed_49 rfl ?_
              refine q_lload_n F 1 dX7_feed_51 rfl rfl ?_
              refine q_bipush F (nI 8) dX7_feed_52 (by decide) ?_
              refine q_iload F 5 dX7_feed_54 rfl ?_
              refine n_imul F dX7_feed_56 ?_
              refine q_lushr F dX7_feed_57 ?_
              refine q_ldc2 F dX7_feed_58 wX7_125 ?_
              refine q_land F dX7_feed_61 ?_
              refine q_l2i F dX7_feed_62 ?_
              refine q_i2c F dX7_feed_63 ?_
              refine q_top (.int (nI (sByte w k))) (congrArg Value.int (by_byte (by omega))) ?_
              refine iX7_127 F dX7_feed_64 (c_append (tl := T_tl T + d) g1 (by omega) (sByte_lt w k)) (by decide) sh_3 rfl rfl (Nat.le_of_ble_eq_true rfl) (fun σ_64 h_64 => ?_)
              subst h_64
              refine q_iinc5 F _ dX7_feed_67 rfl (by decide) rfl ?_
              refine q_goto F 44 dX7_feed_70 (by decide) ?_
              refine ih (d + 1) _ ?_ ?_ ?_ (by omega)
              · simp [vm_upd, upd, Nat.add_assoc]
              · intro j hj
                rw [vm_upd_n _ _ _ (by omega)]
                by_cases ej : j = T_tl T + d
                · rw [ej]
                  show _ = nI (if T_tl T ≤ T_tl T + d ∧ T_tl T + d < T_tl T + m then sByte w (m - 1 - (T_tl T + d - T_tl T)) else T_tb T (T_tl T + d))
                  rw [if_pos (by omega), show m - 1 - (T_tl T + d - T_tl T) = k by omega]
                  simp [vm_upd, upd]
                · rw [vm_upd_j _ _ _ ej]
                  exact g2 j (by omega)
              · intro o a b
                rw [vm_upd_n _ _ _ a, vm_upd_n _ _ _ b]
                exact g3 o a b
        obtain ⟨q, rfl⟩ : ∃ q, m = q + 1 := ⟨m - 1, by omega⟩
        rw [Nat.add_sub_cancel, ← nI_dec q]
        exact L (q + 1) 0 _ hTape.1 (fun j hj => by
          show _ = nI (if T_tl T ≤ j ∧ j < T_tl T + (q + 1) then sByte w (q + 1 - 1 - (j - T_tl T)) else T_tb T j)
          rw [if_neg (by omega)]
          exact (hTape.2.2 j (by omega)).1) (fun _ _ _ => rfl) (by omega)
      · refine q_ldc F dX7_feed_36 wX7_124 ?_
        refine K _ _ _ _ ?_ dX7_feed_38 rfl
        have e : aFeed T w (nI m) = (sFULL, T) := by
          unfold aFeed
          rw [hxm, if_neg (by rw [nI_toInt (by omega)]; omega), if_pos (by omega)]
        rw [e]
        exact ⟨rfl, hC, fun _ _ => rfl⟩
    · refine q_ldc F dX7_feed_11 wX7_80 ?_
      refine K _ _ _ _ ?_ dX7_feed_13 rfl
      have e : aFeed T w n = (sBAD, T) := by
        unfold aFeed
        rw [if_pos (by rw [i_le (by decide)] at c_8; omega)]
      rw [e]
      exact ⟨rfl, hC, fun _ _ => rfl⟩
