/-! ===== WHAT EACH CALL ANSWERS, and the state behind it ===== -/
/-- rows: lane + 1 (0: missing), items, values; tape; path read, path; past; images; trace; fault; finding -/
abbrev vm_T : Type := (Nat → Nat) × (Nat → Nat) × (Nat → Nat → Int32) × Nat × (Nat → Nat) × Bool × vm_V × Nat × (Nat → vm_V) × (Nat → Bool) × (Nat → vm_V) × Nat × (Nat → Int32) × Int32 × Int32
abbrev T_rl (T : vm_T) := T.1
abbrev T_rn (T : vm_T) := T.2.1
abbrev T_ri (T : vm_T) := T.2.2.1
abbrev T_tl (T : vm_T) := T.2.2.2.1
abbrev T_tb (T : vm_T) := T.2.2.2.2.1
abbrev T_hp (T : vm_T) := T.2.2.2.2.2.1
abbrev T_nw (T : vm_T) := T.2.2.2.2.2.2.1
abbrev T_pl (T : vm_T) := T.2.2.2.2.2.2.2.1
abbrev T_pv (T : vm_T) := T.2.2.2.2.2.2.2.2.1
abbrev T_im (T : vm_T) := T.2.2.2.2.2.2.2.2.2.1
abbrev T_iv (T : vm_T) := T.2.2.2.2.2.2.2.2.2.2.1
abbrev T_tn (T : vm_T) := T.2.2.2.2.2.2.2.2.2.2.2.1
abbrev T_tr (T : vm_T) := T.2.2.2.2.2.2.2.2.2.2.2.2.1
abbrev T_flt (T : vm_T) := T.2.2.2.2.2.2.2.2.2.2.2.2.2.1
abbrev T_fnd (T : vm_T) := T.2.2.2.2.2.2.2.2.2.2.2.2.2.2
abbrev sT_rows (T : vm_T) (rl rn : Nat → Nat) (ri : Nat → Nat → Int32) (f : Int32) : vm_T := (rl, rn, ri, T_tl T, T_tb T, T_hp T, T_nw T, T_pl T, T_pv T, T_im T, T_iv T, T_tn T, T_tr T, T_flt T, f)
abbrev sT_fnd (T : vm_T) (f : Int32) : vm_T := (T_rl T, T_rn T, T_ri T, T_tl T, T_tb T, T_hp T, T_nw T, T_pl T, T_pv T, T_im T, T_iv T, T_tn T, T_tr T, T_flt T, f)
abbrev sT_tape (T : vm_T) (tl : Nat) (tb : Nat → Nat) : vm_T := (T_rl T, T_rn T, T_ri T, tl, tb, T_hp T, T_nw T, T_pl T, T_pv T, T_im T, T_iv T, T_tn T, T_tr T, T_flt T, T_fnd T)
abbrev sT_now (T : vm_T) (nw : vm_V) (pl : Nat) (pv : Nat → vm_V) : vm_T := (T_rl T, T_rn T, T_ri T, T_tl T, T_tb T, T_hp T, nw, pl, pv, T_im T, T_iv T, T_tn T, T_tr T, T_flt T, T_fnd T)
abbrev sT_img (T : vm_T) (im : Nat → Bool) (iv : Nat → vm_V) : vm_T := (T_rl T, T_rn T, T_ri T, T_tl T, T_tb T, T_hp T, T_nw T, T_pl T, T_pv T, im, iv, T_tn T, T_tr T, T_flt T, T_fnd T)
abbrev sT_tr (T : vm_T) (t : Nat × (Nat → Int32)) : vm_T := (T_rl T, T_rn T, T_ri T, T_tl T, T_tb T, T_hp T, T_nw T, T_pl T, T_pv T, T_im T, T_iv T, t.1, t.2, T_flt T, T_fnd T)
def sBAD : Int32 := -1000001
def sSTATE : Int32 := -1000002
def sFULL : Int32 := -1000003
def sNONE : Int32 := -1000000
def sFound (T : vm_T) (k : Nat) : Int32 × vm_T := (-1000010 - nI k, sT_fnd T (nI k))
def xN (x : Int32) : Nat := x.toNatClampNeg
theorem xN_nI {n : Nat} (h : n < 2 ^ 31) : xN (nI n) = n := nI_clamp h
def aRow (T : vm_T) (r l n : Int32) : Int32 × vm_T :=
  if (!(wi r 8) || !(wi l 3) || decide (40 < n.toInt)) = true then (sBAD, T)
  else if n.toInt < 0 then sFound T 4
  else (n, sT_rows T (vm_u (T_rl T) (xN r) (xN l + 1)) (vm_u (T_rn T) (xN r) (xN n)) (vm_u (T_ri T) (xN r) (fun _ => nI 0)) (nI 0))
def aSet (T : vm_T) (r i v : Int32) : Int32 × vm_T :=
  if wi r 8 = false then (sBAD, T)
  else if T_rl T (xN r) = 0 then sFound T 1
  else if wi i (T_rn T (xN r)) = false then sFound T 2
  else (sNar (T_rl T (xN r)) v, sT_rows T (T_rl T) (T_rn T) (vm_u (T_ri T) (xN r) (vm_u (T_ri T (xN r)) (xN i) (sNar (T_rl T (xN r)) v))) (nI 0))
def aCopy (T : vm_T) (a i b j n : Int32) : Int32 × vm_T :=
  if (!(wi a 8) || !(wi b 8)) = true then (sBAD, T)
  else if T_rl T (xN a) = 0 ∨ T_rl T (xN b) = 0 then sFound T 1
  else if T_rl T (xN a) ≠ T_rl T (xN b) then sFound T 5
  else if (!(sRun i n (T_rn T (xN a))) || !(sRun j n (T_rn T (xN b)))) = true then sFound T 2
  else (n, sT_rows T (T_rl T) (T_rn T) (vm_u (T_ri T) (xN b) (va_cpy (T_ri T (xN a)) (T_ri T (xN b)) (xN i) (xN j) (xN n))) (nI 0))
def aDrop (T : vm_T) (r : Int32) : Int32 × vm_T :=
  if wi r 8 = false then (sBAD, T)
  else if T_rl T (xN r) = 0 then sFound T 1
  else (nI (T_rn T (xN r)), sT_rows T (vm_u (T_rl T) (xN r) 0) (T_rn T) (T_ri T) (nI 0))
def sByte (w : Int64) (i : Nat) : Nat := w.toBitVec.toNat / 2 ^ (8 * i) % 256
def aFeed (T : vm_T) (w : Int64) (n : Int32) : Int32 × vm_T :=
  if n.toInt < 1 ∨ 8 < n.toInt then (sBAD, T)
  else if 400 < T_tl T + xN n then (sFULL, T)
  else (nI (T_tl T + xN n), sT_tape T (T_tl T + xN n) (fun k => if T_tl T ≤ k ∧ k < T_tl T + xN n then sByte w (xN n - 1 - (k - T_tl T)) else T_tb T k))
def aFault (T : vm_T) : Int32 × vm_T := (T_flt T, T)
def sPush (v : vm_V) (t : Nat × (Nat → vm_V)) : Nat × (Nat → vm_V) := if t.1 < 24 then (t.1 + 1, vm_u t.2 t.1 v) else (24, fun i => if i < 23 then t.2 (i + 1) else v)
def sPushs (v : vm_V) (t : Nat × (Nat → vm_V)) : Nat → Nat × (Nat → vm_V)
  | 0 => t
  | i + 1 => sPush (sHs i v) (sPushs v t i)
def aHalves (T : vm_T) (n : Int32) : Int32 × vm_T :=
  if T_hp T = false then (sSTATE, T)
  else if n.toInt < 1 ∨ 60 < n.toInt then (sBAD, T)
  else if 9999 < V_gn (T_nw T) + xN n then (sFULL, T)
  else (V_fin (sHs (xN n) (T_nw T)) &&& (V_fin (T_nw T) ^^^ (-1)), sT_now T (sHs (xN n) (T_nw T)) (sPushs (T_nw T) (T_pl T, T_pv T) (xN n)).1 (sPushs (T_nw T) (T_pl T, T_pv T) (xN n)).2)
def aUndo (T : vm_T) : Int32 × vm_T :=
  if T_pl T = 0 then (sSTATE, T) else (nI (T_pl T - 1), sT_now T (T_pv T (T_pl T - 1)) (T_pl T - 1) (T_pv T))
def aPerson (T : vm_T) (p w : Int32) : Int32 × vm_T :=
  if wi p (V_n (T_nw T)) = false then (sBAD, T) else (sTell (T_nw T) (xN p) w, T)
def aErrand (T : vm_T) (e w : Int32) : Int32 × vm_T :=
  if wi e (V_n (T_nw T)) = false then (sBAD, T)
  else ((if w = nI 0 then V_gl (T_nw T) (xN e) else if w = nI 1 then (V_fin (T_nw T) >>> (e &&& 31)) &&& nI 1 else if w = nI 2 then nI (sHold (xN e) (T_nw T)) else if w = nI 3 then V_sp (T_nw T) (sHold (xN e) (T_nw T)) else sBAD), T)
def aAhead (T : vm_T) (p n w : Int32) : Int32 × vm_T :=
  if (!(wi p (V_n (T_nw T))) || !(wi n 121)) = true then (sBAD, T) else (sTell (sHs (xN n) (T_nw T)) (xN p) w, T)
def aDone (T : vm_T) (e w : Int32) : Int32 × vm_T :=
  if (!(wi e (V_n (T_nw T))) || !(wi w 2)) = true then (sBAD, T)
  else ((if 120 < sU (sBit (xN e)) (T_nw T) 120 then sNONE else if w = nI 0 then nI (sU (sBit (xN e)) (T_nw T) 120) else nI (sHold (xN e) (sHs (sU (sBit (xN e)) (T_nw T) 120) (T_nw T)))), T)
def aSecret (T : vm_T) (e n : Int32) : Int32 × vm_T :=
  if (!(wi e (V_n (T_nw T))) || !(wi n 121)) = true then (sBAD, T) else (sS (xN e) (T_nw T) (xN n), T)
/-- sets tried so far: the fewest halves (121: none), the set -/
def sSoon (v : vm_V) : Nat → Nat × Int32
  | 0 => (121, sNONE)
  | s + 1 => if sCan (V_kd v) (V_n v) s = true ∧ sF (fun k => decide (V_fin (sHs k (sOut s v)) &&& nI (2 ^ V_n v - 1) = nI (2 ^ V_n v - 1))) (sSoon v s).1 < (sSoon v s).1
      then (sF (fun k => decide (V_fin (sHs k (sOut s v)) &&& nI (2 ^ V_n v - 1) = nI (2 ^ V_n v - 1))) (sSoon v s).1, nI s) else sSoon v s
def aSoon (T : vm_T) (w : Int32) : Int32 × vm_T :=
  if T_hp T = false then (sSTATE, T)
  else if wi w 2 = false then (sBAD, T)
  else ((if w = nI 0 then (if (sSoon (T_nw T) (2 ^ V_n (T_nw T))).1 < 121 then nI (sSoon (T_nw T) (2 ^ V_n (T_nw T))).1 else sNONE) else (sSoon (T_nw T) (2 ^ V_n (T_nw T))).2), T)
/-- sets that fit, among the first: how many, the least -/
def sFit (f : Nat → Bool) : Nat → Nat × Int32
  | 0 => (0, sNONE)
  | s + 1 => if f s then ((sFit f s).1 + 1, if (sFit f s).1 = 0 then nI s else (sFit f s).2) else sFit f s
def sTold (t : Nat × Int32) (w : Int32) : Int32 := if w = nI 0 then nI t.1 else t.2
def aClean (T : vm_T) (e m n w : Int32) : Int32 × vm_T :=
  if (!(wi e (V_n (T_nw T))) || !(wi m (2 ^ V_n (T_nw T))) || !(wi n 121) || !(wi w 2)) = true then (sBAD, T)
  else (sTold (sFit (fun s => sCan (V_kd (T_nw T)) (V_n (T_nw T)) s && decide (sS (xN e) (sOut s (T_nw T)) (xN n) &&& m = nI 0)) (2 ^ V_n (T_nw T))) w, T)
def sPp (x : Int32) : Nat → Int32
  | 0 => nI 0
  | k + 1 => sPp x k + ((x >>> (nI k &&& 31)) &&& nI 1)
def sPop (x : Int32) : Int32 := sPp x 8
/-- hands of the sets so far, sets so far -/
def sHand (v : vm_V) (e n : Nat) : Nat → Int32 × Nat
  | 0 => (nI 0, 0)
  | s + 1 => if sCan (V_kd v) (V_n v) s then ((sHand v e n s).1 + sPop (sS e (sOut s v) n), (sHand v e n s).2 + 1) else sHand v e n s
def aHands (T : vm_T) (e n w : Int32) : Int32 × vm_T :=
  if (!(wi e (V_n (T_nw T))) || !(wi n 121) || !(wi w 2)) = true then (sBAD, T)
  else ((if w = nI 0 then nI (xN (sHand (T_nw T) (xN e) (xN n) (2 ^ V_n (T_nw T))).1 / Nat.gcd (xN (sHand (T_nw T) (xN e) (xN n) (2 ^ V_n (T_nw T))).1) (sHand (T_nw T) (xN e) (xN n) (2 ^ V_n (T_nw T))).2)
      else nI ((sHand (T_nw T) (xN e) (xN n) (2 ^ V_n (T_nw T))).2 / Nat.gcd (xN (sHand (T_nw T) (xN e) (xN n) (2 ^ V_n (T_nw T))).1) (sHand (T_nw T) (xN e) (xN n) (2 ^ V_n (T_nw T))).2)), T)
/-- a row tells errands, one for each of the people; who has what is as it tells -/
def sAll (f : Nat → Bool) (n : Nat) : Bool := decide (sF (fun p => !(f p)) n = n)
def aBegan (T : vm_T) (r n w : Int32) : Int32 × vm_T :=
  if T_hp T = false then (sSTATE, T)
  else if (!(wi r 8) || !(wi n 121) || !(wi w 2)) = true then (sBAD, T)
  else if T_rl T (xN r) = 0 then sFound T 1
  else if T_rn T (xN r) < V_n (T_nw T) then sFound T 2
  else if sAll (fun p => wi (T_ri T (xN r) p) (V_n (T_nw T))) (V_n (T_nw T)) = false then (sBAD, T)
  else (sTold (sFit (fun s => sCan (V_kd (T_nw T)) (V_n (T_nw T)) s && sAll (fun p => decide (nI (V_er (sHs (xN n) (sOut s (T_nw T))) p) = T_ri T (xN r) p)) (V_n (T_nw T))) (2 ^ V_n (T_nw T))) w, sT_fnd T (nI 0))
def aImage (T : vm_T) (k : Int32) : Int32 × vm_T :=
  if wi k 2 = false then (sBAD, T)
  else if T_hp T = false then (sSTATE, T)
  else (nI 1, sT_img T (vm_u (T_im T) (xN k) true) (vm_u (T_iv T) (xN k) (T_nw T)))
def aRestore (T : vm_T) (k : Int32) : Int32 × vm_T :=
  if wi k 2 = false then (sBAD, T)
  else if T_im T (xN k) = false then (sSTATE, T)
  else (nI 1, sT_now T (T_iv T (xN k)) 0 (T_pv T))
def aKind (T : vm_T) (p : Int32) : Int32 × vm_T := if wi p (V_n (T_nw T)) = false then (sBAD, T) else (nI (V_kd (T_nw T) (xN p)), T)
def aAs (T : vm_T) (p k : Int32) : Int32 × vm_T :=
  if (!(wi p (V_n (T_nw T))) || !(wi k 6)) = true then (sBAD, T)
  else if sIs (V_kd (T_nw T) (xN p)) (xN k) then (p, sT_fnd T (nI 0)) else sFound T 3
/-- what is asked of one: what the bodies leave, in order, and what comes out -/
def sLvs (l : List Nat) (t : Nat × (Nat → Int32)) : Nat × (Nat → Int32) := l.foldl (fun t x => sLv (nI x) t) t
def gSize (v : vm_V) (p : Nat) : List Nat × Int32 :=
  if V_kd v p = 1 ∨ V_kd v p = 3 then (if V_kd v p = 1 then ([11, 10, 21, 20], V_sp v p + (nI p + nI (V_er v p))) else ([11, 10, 22, 21, 20], V_sp v p + (nI p + nI (V_er v p) - nI 1000)))
  else if V_kd v p = 2 then ([12, 11, 10, 24, 21, 20], -(V_sp v p + nI 2 * (nI p + nI (V_er v p))))
  else if V_kd v p = 4 then ([13, 10], V_sp v p - nI 100)
  else ([14, 13, 10], nI 2 * (V_sp v p - nI 100))
def gMark (v : vm_V) (p : Nat) : List Nat × Int32 :=
  if V_kd v p = 1 then ([21, 20], nI p + nI (V_er v p))
  else if V_kd v p = 2 then ([24, 21, 20], nI 2 * (nI p + nI (V_er v p)))
  else if V_kd v p = 3 then ([22, 21, 20], nI p + nI (V_er v p) - nI 1000)
  else if V_kd v p = 4 then ([23, 20, 13, 10], nI p - (V_sp v p - nI 100))
  else ([23, 20, 14, 13, 10], nI p - nI 2 * (V_sp v p - nI 100))
def aAsk (T : vm_T) (p w : Int32) : Int32 × vm_T :=
  if (!(wi p (V_n (T_nw T))) || !(wi w 2)) = true then (sBAD, T)
  else if w = nI 0 then ((gSize (T_nw T) (xN p)).2, sT_tr T (sLvs (gSize (T_nw T) (xN p)).1 (0, T_tr T)))
  else ((gMark (T_nw T) (xN p)).2, sT_tr T (sLvs (gMark (T_nw T) (xN p)).1 (0, T_tr T)))
def aTrace (T : vm_T) (i : Int32) : Int32 × vm_T := if wi i (T_tn T) then (T_tr T (xN i), T) else (sNONE, T)
def sThere (rl : Nat → Nat) : Nat → Nat
  | 0 => 0
  | r + 1 => if rl r = 0 then sThere rl r else sThere rl r + 1
def aCount (T : vm_T) (w : Int32) : Int32 × vm_T :=
  ((if w = nI 0 then nI (sThere (T_rl T) 8) else if w = nI 1 then nI (V_n (T_nw T)) else if w = nI 2 then nI (V_gn (T_nw T)) else if w = nI 3 then nI (T_pl T) else if w = nI 4 then sPop (V_fin (T_nw T)) else if w = nI 5 then nI (T_tl T) else sBAD), T)
def aStatus (T : vm_T) : Int32 × vm_T := (T_fnd T, T)
/-- what a path is at any time -/
def sG (v : vm_V) : Prop := sOk v ∧ (∀ e, e < V_n v → ∃ p, p < V_n v ∧ V_er v p = e) ∧ (∃ m, m < 2 ^ V_n v ∧ V_fin v = nI m) ∧ (∀ p, p < V_n v → 1 ≤ V_kd v p)
def sSame (v w : vm_V) : Prop := V_kd v = V_kd w ∧ V_gl v = V_gl w ∧ V_top v = V_top w ∧ V_law v = V_law w ∧ V_n v = V_n w
def SInv (T : vm_T) : Prop := sG (T_nw T) ∧ (T_hp T = false → V_n (T_nw T) = 0 ∧ T_pl T = 0) ∧ V_gn (T_nw T) ≤ 9999 ∧ T_pl T ≤ 24 ∧ (∀ i, i < T_pl T → sG (T_pv T i) ∧ sSame (T_pv T i) (T_nw T) ∧ V_gn (T_pv T i) + (T_pl T - i) = V_gn (T_nw T)) ∧ (∀ k, k < 2 → T_im T k = true → sG (T_iv T k) ∧ V_gn (T_iv T k) ≤ 9999 ∧ T_hp T = true) ∧ (∀ r, r < 8 → T_rl T r < 4 ∧ (T_rl T r ≠ 0 → T_rn T r ≤ 40)) ∧ T_tl T ≤ 400 ∧ (∀ k, k < T_tl T → T_tb T k < 256) ∧ T_tn T ≤ 16
/-- the class's memory holds the state -/
def CInv (σ : vm_M) (T : vm_T) : Prop := cRows σ (T_rl T) (T_rn T) (T_ri T) ∧ cTape σ (T_tl T) (T_tb T) ∧ cNow σ (T_hp T) (T_nw T) ∧ cPast σ (T_pl T) (T_pv T) ∧ cImg σ (T_im T) (T_iv T) ∧ cTr σ (T_tn T) (T_tr T) ∧ σ 0 11 = T_flt T ∧ σ 0 12 = T_fnd T ∧ (∃ v, isP σ 11 v ∧ ∀ p, V_kd v p < 6)
/-- only what nobody sees has changed: trial, reader, fits -/
theorem CInv.fr {σ σ' : vm_M} {T : vm_T} (h : CInv σ T) (hf : ∀ o, o < 202 → ¬ (17 ≤ o ∧ o ≤ 22) → o ≠ 2 → o ≠ 173 → σ' o = σ o) : CInv σ' T := by
  obtain ⟨h1, h2, h3, h4, h5, h6, h7, h8, v, h9, h10⟩ := h
  have f0 : σ' 0 = σ 0 := hf 0 (by omega) (by omega) (by omega) (by omega)
  exact ⟨h1.fr (fun o a b => hf o (by omega) (by omega) (by omega) (by omega)), h2.fr (hf 3 (by omega) (by omega) (by omega) (by omega)) (hf 4 (by omega) (by omega) (by omega) (by omega)), h3.fr (by rw [f0]) (fun o a b => hf o (by omega) (by omega) (by omega) (by omega)),
    h4.fr (fun o a b => hf o (by omega) (by omega) (by omega) (by omega)), h5.fr (hf 24 (by omega) (by omega) (by omega) (by omega)) (fun o a b => hf o (by omega) (by omega) (by omega) (by omega)), h6.fr (hf 171 (by omega) (by omega) (by omega) (by omega)) (hf 172 (by omega) (by omega) (by omega) (by omega)),
    by rw [f0]; exact h7, by rw [f0]; exact h8, v, h9.fr (fun o a b => hf o (by omega) (by omega) (by omega) (by omega)), h10⟩
/-- a finding is noted -/
theorem CInv.fnd {σ : vm_M} {T : vm_T} (h : CInv σ T) (x : Int32) : CInv (vm_upd σ 0 12 x) (sT_fnd T x) := by
  obtain ⟨h1, h2, h3, h4, h5, h6, h7, h8, v, h9, h10⟩ := h
  have e : ∀ o, o ≠ 0 → vm_upd σ 0 12 x o = σ o := fun o ho => vm_upd_n _ _ _ ho
  have e0 : ∀ k, k ≠ 12 → vm_upd σ 0 12 x 0 k = σ 0 k := fun k hk => by simp [vm_upd, upd, hk]
  exact ⟨h1.fr (fun o a b => e o (by omega)), h2.fr (e 3 (by omega)) (e 4 (by omega)), h3.fr (e0 10 (by omega)) (fun o a b => e o (by omega)), h4.fr (fun o a b => e o (by omega)), h5.fr (e 24 (by omega)) (fun o a b => e o (by omega)), h6.fr (e 171 (by omega)) (e 172 (by omega)),
    by rw [e0 11 (by omega)]; exact h7, by simp [vm_upd, upd], v, h9.fr (fun o a b => e o (by omega)), h10⟩
def cPost (σ : vm_M) (a : Int32 × vm_T) : Int32 → vm_M → Prop := fun r σ' => r = a.1 ∧ CInv σ' a.2 ∧ ∀ o, 202 ≤ o → σ' o = σ o
