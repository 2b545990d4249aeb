/-! contracts over the machine, by program: each method does what its function says -/
theorem zt_lwj {u : Int32} {j : Nat} (h : u = nI (5 * j)) : u + 5 = nI (5 * (j + 1)) := by
  rw [h, show (5 : Int32) = nI 5 from rfl, nI_add, Nat.mul_succ]
theorem zt_lwk {L j : Nat} (hL : L ≤ 2560) (hj : 5 * j ≤ L) (c : ¬ Int32.ofNat L - 5 < nI (5 * j)) : 5 * j + 5 ≤ L := by
  rcases Nat.lt_or_ge L 5 with h | h
  · exfalso
    refine c ?_
    have h1 : Int32.ofNat L - 5 < 0 := by
      rw [show (5 : Int32) = nI 5 from rfl]
      exact pk_sneg (by decide) h
    have h2 : (0 : Int32) ≤ nI (5 * j) := nI_pos' (by omega)
    exact Int32.lt_of_lt_of_le h1 h2
  · rw [show (5 : Int32) = nI 5 from rfl, show Int32.ofNat L - nI 5 = nI (L - 5) from pk_sub h, nI_ltI (by omega) (by omega)] at c
    omega
set_option maxHeartbeats 8000000 in
set_option maxRecDepth 100000 in
theorem law_loop {p : Program} {l : Launch} {e : Env} {s : State} {m : MethodId} {below : List Frame} {meth : Method} {c : Code} (hl2 : l.stackTraces = false) {G : zt_G} {b L : Nat} {xs : Nat → Int32} (hL : L ≤ 2560) (C0 : lw_At p s m meth c b L xs) (hE : zt_E G s) (hX : zt_X G s s.heap) (hGA : ∀ q, zt_A G q → s.heap.size ≤ q) : ∀ (n : Nat), ∀ (σ : zt_St) (u4 : Int32) (H : Heap) (locs : List Loc) (ls : Array Slot) (j cN sN : Nat), f_L_law_23 xs L n σ u4 = some 1 → 5 * j ≤ L → cN ≤ 2000 + 3 * j → sN ≤ 20000 + 18 * j → u4 = nI (5 * j) → va_P (zt_D G) vwCl (zt_ww G σ) H → va_S (fun q : Nat => s.heap.size ≤ q) s.heap H locs → lv_has ls 7 [(0, .ref b), (1, .ref (zt_ad G 0)), (2, .ref (zt_ad G 94)), (3, .ref (zt_ad G 122)), (4, .int u4)] → W p l e room_1 s m #[Value.ref b] below meth c H locs cN sN (lw_Z below #[Value.ref b] s) (F0 m 23 ls []) := by
  obtain ⟨hx, hb, hr, hml, hown, hts, hXs, hbl, hlocks, hgv⟩ := id C0
  have hown : s.vm.findClass RL = some m.cls := hown
  have hts := fun w h => hts w (wsL_law_in w h)
  have hK := hE.2.1
  have hbA : ¬ (fun q : Nat => s.heap.size ≤ q) b := Nat.not_le.mpr hbl
  have hvac : ∀ a : Nat, a < s.heap.size → (fun q : Nat => s.heap.size ≤ q) a → zt_A G a := fun a h1 h2 => absurd h1 (Nat.not_lt.mpr h2)
  have B1488 : ∀ (rc23 : zt_St → Int32 → Option Int32) (hrc23 : ∀ (σ : zt_St) (u4 : Int32) (H : Heap) (locs : List Loc) (ls : Array Slot) (j cN sN : Nat), rc23 σ u4 = some 1 → 5 * j ≤ L → cN ≤ 2000 + 3 * j → sN ≤ 20000 + 18 * j → u4 = nI (5 * j) → va_P (zt_D G) vwCl (zt_ww G σ) H → va_S (fun q : Nat => s.heap.size ≤ q) s.heap H locs → lv_has ls 7 [(0, .ref b), (1, .ref (zt_ad G 0)), (2, .ref (zt_ad G 94)), (3, .ref (zt_ad G 122)), (4, .int u4)] → W p l e room_1 s m #[Value.ref b] below meth c H locs cN sN (lw_Z below #[Value.ref b] s) (F0 m 23 ls [])), ∀ (σ : zt_St) (u4 : Int32) (H : Heap) (locs : List Loc) (ls : Array Slot) (j cN sN : Nat), f_L_law_1488 xs L rc23 σ u4 = some 1 → 5 * j + 5 ≤ L → cN ≤ 2003 + 3 * j → sN ≤ 20018 + 18 * j → u4 = nI (5 * j) → va_P (zt_D G) vwCl (zt_ww G σ) H → va_S (fun q : Nat => s.heap.size ≤ q) s.heap H locs → lv_has ls 7 [(0, .ref b), (1, .ref (zt_ad G 0)), (2, .ref (zt_ad G 94)), (3, .ref (zt_ad G 122)), (4, .int u4)] → W p l e room_1 s m #[Value.ref b] below meth c H locs cN sN (lw_Z below #[Value.ref b] s) (F0 m 1488 ls []) := by
    intro rc23 hrc23 σ u4 H locs ls j cN sN hf hj5 hc hs hj4 hP hS hl
    unfold f_L_law_1488 at hf
    refine lv_iinc (v := (u4 + 5)) (lv' := [(4, .int (u4 + 5)), (0, .ref b), (1, .ref (zt_ad G 0)), (2, .ref (zt_ad G 94)), (3, .ref (zt_ad G 122))]) hx hb dL_law_1488 hl (k := 4) rfl rfl (by decide) rfl (fun ls hl => ?_)
    refine lv_goto (tgt := 23) hx hb dL_law_1491 (by decide) ?_
    exact hrc23 σ (u4 + 5) _ _ _ (j + 1) cN sN hf (by omega) (by omega) (by omega) (zt_lwj hj4) hP hS (lv_sub hl [1, 2, 3, 4, 0] rfl)
  have B197 : ∀ (rc23 : zt_St → Int32 → Option Int32) (hrc23 : ∀ (σ : zt_St) (u4 : Int32) (H : Heap) (locs : List Loc) (ls : Array Slot) (j cN sN : Nat), rc23 σ u4 = some 1 → 5 * j ≤ L → cN ≤ 2000 + 3 * j → sN ≤ 20000 + 18 * j → u4 = nI (5 * j) → va_P (zt_D G) vwCl (zt_ww G σ) H → va_S (fun q : Nat => s.heap.size ≤ q) s.heap H locs → lv_has ls 7 [(0, .ref b), (1, .ref (zt_ad G 0)), (2, .ref (zt_ad G 94)), (3, .ref (zt_ad G 122)), (4, .int u4)] → W p l e room_1 s m #[Value.ref b] below meth c H locs cN sN (lw_Z below #[Value.ref b] s) (F0 m 23 ls [])), ∀ (σ : zt_St) (u4 : Int32) (H : Heap) (locs : List Loc) (ls : Array Slot) (j cN sN : Nat), f_L_law_197 xs L rc23 σ u4 = some 1 → 5 * j + 5 ≤ L → cN ≤ 2003 + 3 * j → sN ≤ 20018 + 18 * j → u4 = nI (5 * j) → va_P (zt_D G) vwCl (zt_ww G σ) H → va_S (fun q : Nat => s.heap.size ≤ q) s.heap H locs → lv_has ls 7 [(0, .ref b), (1, .ref (zt_ad G 0)), (2, .ref (zt_ad G 94)), (3, .ref (zt_ad G 122)), (4, .int u4)] → W p l e room_1 s m #[Value.ref b] below meth c H locs cN sN (lw_Z below #[Value.ref b] s) (F0 m 197 ls []) := by
    intro rc23 hrc23 σ u4 H locs ls j cN sN hf hj5 hc hs hj4 hP hS hl
    unfold f_L_law_197 at hf
    refine lv_goto (tgt := 1488) hx hb dL_law_197 (by decide) ?_
    exact B1488 rc23 hrc23 σ u4 _ _ _ j cN sN hf hj5 (by omega) (by omega) hj4 hP hS (lv_sub hl [0, 1, 2, 3, 4] rfl)
  have B293 : ∀ (rc23 : zt_St → Int32 → Option Int32) (hrc23 : ∀ (σ : zt_St) (u4 : Int32) (H : Heap) (locs : List Loc) (ls : Array Slot) (j cN sN : Nat), rc23 σ u4 = some 1 → 5 * j ≤ L → cN ≤ 2000 + 3 * j → sN ≤ 20000 + 18 * j → u4 = nI (5 * j) → va_P (zt_D G) vwCl (zt_ww G σ) H → va_S (fun q : Nat => s.heap.size ≤ q) s.heap H locs → lv_has ls 7 [(0, .ref b), (1, .ref (zt_ad G 0)), (2, .ref (zt_ad G 94)), (3, .ref (zt_ad G 122)), (4, .int u4)] → W p l e room_1 s m #[Value.ref b] below meth c H locs cN sN (lw_Z below #[Value.ref b] s) (F0 m 23 ls [])), ∀ (σ : zt_St) (u4 : Int32) (H : Heap) (locs : List Loc) (ls : Array Slot) (j cN sN : Nat), f_L_law_293 xs L rc23 σ u4 = some 1 → 5 * j + 5 ≤ L → cN ≤ 2003 + 3 * j → sN ≤ 20018 + 18 * j → u4 = nI (5 * j) → va_P (zt_D G) vwCl (zt_ww G σ) H → va_S (fun q : Nat => s.heap.size ≤ q) s.heap H locs → lv_has ls 7 [(0, .ref b), (1, .ref (zt_ad G 0)), (2, .ref (zt_ad G 94)), (3, .ref (zt_ad G 122)), (4, .int u4)] → W p l e room_1 s m #[Value.ref b] below meth c H locs cN sN (lw_Z below #[Value.ref b] s) (F0 m 293 ls []) := by
    intro rc23 hrc23 σ u4 H locs ls j cN sN hf hj5 hc hs hj4 hP hS hl
    unfold f_L_law_293 at hf
    refine lv_goto (tgt := 1488) hx hb dL_law_293 (by decide) ?_
    exact B1488 rc23 hrc23 σ u4 _ _ _ j cN sN hf hj5 (by omega) (by omega) hj4 hP hS (lv_sub hl [0, 1, 2, 3, 4] rfl)
  have B260 : ∀ (rc23 : zt_St → Int32 → Option Int32) (hrc23 : ∀ (σ : zt_St) (u4 : Int32) (H : Heap) (locs : List Loc) (ls : Array Slot) (j cN sN : Nat), rc23 σ u4 = some 1 → 5 * j ≤ L → cN ≤ 2000 + 3 * j → sN ≤ 20000 + 18 * j → u4 = nI (5 * j) → va_P (zt_D G) vwCl (zt_ww G σ) H → va_S (fun q : Nat => s.heap.size ≤ q) s.heap H locs → lv_has ls 7 [(0, .ref b), (1, .ref (zt_ad G 0)), (2, .ref (zt_ad G 94)), (3, .ref (zt_ad G 122)), (4, .int u4)] → W p l e room_1 s m #[Value.ref b] below meth c H locs cN sN (lw_Z below #[Value.ref b] s) (F0 m 23 ls [])), ∀ (σ : zt_St) (y0 : Int32) (y1 : Int32) (y2 : Int32) (u4 : Int32) (u5 : Int32) (H : Heap) (locs : List Loc) (ls : Array Slot) (j cN sN : Nat), f_L_law_260 xs L rc23 σ y0 y1 y2 u4 u5 = some 1 → 5 * j + 5 ≤ L → cN ≤ 2003 + 3 * j → sN ≤ 20018 + 18 * j → u4 = nI (5 * j) → va_P (zt_D G) vwCl (zt_ww G σ) H → va_S (fun q : Nat => s.heap.size ≤ q) s.heap H locs → lv_has ls 7 [(0, .ref b), (1, .ref (zt_ad G 0)), (2, .ref (zt_ad G 94)), (3, .ref (zt_ad G 122)), (4, .int u4), (5, .int u5)] → W p l e room_1 s m #[Value.ref b] below meth c H locs cN sN (lw_Z below #[Value.ref b] s) (F0 m 260 ls [.int y0, .int y1, .int y2, .ref (zt_ad G 94)]) := by
    intro rc23 hrc23 σ y0 y1 y2 u4 u5 H locs ls j cN sN hf hj5 hc hs hj4 hP hS hl
    unfold f_L_law_260 at hf
    obtain ⟨⟨v282a, σ283a⟩, hvv282, hf⟩ := zt_bd_some hf
    obtain ⟨v282, hv282, hf⟩ := zt_lt_some hf; obtain ⟨σ283, hσ283, hf⟩ := zt_lt_some hf; rw [show (v282a, σ283a) = (v282, σ283) from by rw [hv282, hσ283]] at hvv282
    refine va_calli (va_runV (As := [.int y2, .int y1, .int y0]) (rest := []) ⟨hx, hb, hml, hown, hts⟩ (m_X9_need l G (σ := σ) hvv282) (cwV 3 hts gL_law_X9_need rfl rfl rfl zh_X9_need ⟨Nat.le_of_ble_eq_true rfl, Nat.le_of_ble_eq_true rfl⟩) ⟨zt_blind, va_recv hK hP (ci := 8) (q0 := 94) rfl (zt_a8 (rfl : zt_kd 94 = 8)), fun U hU hW => ⟨rfl, zt_go hE hP hS hvac hU hW⟩⟩ rfl rfl hl.1 rfl (lv_room (Nat.le_of_ble_eq_true rfl)) dL_law_260 ⟨(show cN + 0 ≤ 601024 by omega), (show sN + 0 ≤ 7293034 by omega)⟩) hS (fun q _ h => hGA q h) (fun q h => hGA q h) (fun r u t H locs ht hvm hw hB _ _ hS => ?_)
    rw [hw.1]; have hB : zt_B G u t := hB; rw [hw.2] at hB; have hP := zt_B.P hB ht
    refine W.cs (cells' := cN) (slots' := sN) rfl rfl ?_
    refine lv_istore (lv' := [(6, .int v282), (0, .ref b), (1, .ref (zt_ad G 0)), (2, .ref (zt_ad G 94)), (3, .ref (zt_ad G 122)), (4, .int u4), (5, .int u5)]) hx hb dL_law_263 hl (by decide) rfl (fun ls hl => ?_)
    refine lv_aload_n hx hb dL_law_265 rfl (lv_at hl 3 rfl) ?_
    obtain ⟨v285, hvv285, hf⟩ := zt_bd_some hf
    refine va_calli (va_runV (As := []) (rest := []) ⟨hx, hb, hml, hown, hts⟩ (m_X9_thrown l G (σ := σ283) hvv285) (cwV 0 hts gL_law_X9_thrown rfl rfl rfl zh_X9_thrown ⟨Nat.le_of_ble_eq_true rfl, Nat.le_of_ble_eq_true rfl⟩) ⟨zt_blind, va_recv hK hP (ci := 8) (q0 := 94) rfl (zt_a8 (rfl : zt_kd 94 = 8)), fun U hU hW => ⟨rfl, zt_go hE hP hS hvac hU hW⟩⟩ rfl rfl hl.1 rfl (lv_room (Nat.le_of_ble_eq_true rfl)) dL_law_266 ⟨(show cN + 0 ≤ 601024 by omega), (show sN + 0 ≤ 7293034 by omega)⟩) hS (fun q _ h => hGA q h) (fun q h => hGA q h) (fun r u t H locs ht hvm hw hB _ _ hS => ?_)
    rw [hw.1]; have hB : zt_B G u t := hB; rw [hw.2] at hB; have hP := zt_B.P hB ht
    refine W.cs (cells' := cN) (slots' := sN) rfl rfl ?_
    refine lv_iload hx hb dL_law_269 (lv_at hl 6 rfl) ?_
    refine lv_icmp_eq (tgt := 276) hx hb dL_law_271 (by decide) (fun c287 => ?_) (fun c287 => ?_)
    · have hf := (if_pos c287).symm.trans hf
      refine lv_iload hx hb dL_law_276 (lv_at hl 6 rfl) ?_
      refine lv_if_ne (tgt := 293) hx hb dL_law_278 (by decide) (fun c288 => ?_) (fun c288 => ?_)
      · have hf := (if_neg c288).symm.trans hf
        exact B293 rc23 hrc23 σ283 u4 _ _ _ j cN sN hf hj5 (by omega) (by omega) hj4 hP hS (lv_sub hl [1, 2, 3, 4, 5] rfl)
      · have hf := (if_pos c288).symm.trans hf
        refine lv_aload_n hx hb dL_law_281 rfl (lv_at hl 4 rfl) ?_
        refine lv_iconst (v := 0) hx hb dL_law_282 (by decide) ?_
        refine va_lald hx hb hK hP 122 3 (zt_a12 (k := 122) rfl) rfl (zt_gI_in (show zt_gI 0 1 = true by decide +kernel)) dL_law_283 ?_
        rw [show ((0 : Int32).toNatClampNeg) = 0 from by decide]
        refine lv_iload hx hb dL_law_284 (lv_at hl 0 rfl) ?_
        refine lv_i2l (v := (v282 : Int32).toInt64) hx hb dL_law_286 rfl ?_
        refine W.lcmp hx hb dL_law_287 ?_
        refine lv_if_eq (tgt := 293) hx hb dL_law_288 (by decide) (fun c289 => ?_) (fun c289 => ?_)
        · have hf := (if_pos c289).symm.trans hf
          exact B293 rc23 hrc23 σ283 u4 _ _ _ j cN sN hf hj5 (by omega) (by omega) hj4 hP hS (lv_sub hl [1, 2, 3, 4, 5] rfl)
        · have hf := (if_neg c289).symm.trans hf
          refine lv_iconst (v := 0) hx hb dL_law_291 (by decide) ?_
          exact absurd (Option.some.inj hf) (by decide)
    · have hf := (if_neg c287).symm.trans hf
      refine lv_iconst (v := 0) hx hb dL_law_274 (by decide) ?_
      exact absurd (Option.some.inj hf) (by decide)
  have B227 : ∀ (rc23 : zt_St → Int32 → Option Int32) (hrc23 : ∀ (σ : zt_St) (u4 : Int32) (H : Heap) (locs : List Loc) (ls : Array Slot) (j cN sN : Nat), rc23 σ u4 = some 1 → 5 * j ≤ L → cN ≤ 2000 + 3 * j → sN ≤ 20000 + 18 * j → u4 = nI (5 * j) → va_P (zt_D G) vwCl (zt_ww G σ) H → va_S (fun q : Nat => s.heap.size ≤ q) s.heap H locs → lv_has ls 7 [(0, .ref b), (1, .ref (zt_ad G 0)), (2, .ref (zt_ad G 94)), (3, .ref (zt_ad G 122)), (4, .int u4)] → W p l e room_1 s m #[Value.ref b] below meth c H locs cN sN (lw_Z below #[Value.ref b] s) (F0 m 23 ls [])), ∀ (σ : zt_St) (y0 : Int32) (y1 : Int32) (y2 : Int32) (u4 : Int32) (H : Heap) (locs : List Loc) (ls : Array Slot) (j cN sN : Nat), f_L_law_227 xs L rc23 σ y0 y1 y2 u4 = some 1 → 5 * j + 5 ≤ L → cN ≤ 2000 + 3 * j → sN ≤ 20000 + 18 * j → u4 = nI (5 * j) → va_P (zt_D G) vwCl (zt_ww G σ) H → va_S (fun q : Nat => s.heap.size ≤ q) s.heap H locs → lv_has ls 7 [(0, .ref b), (1, .ref (zt_ad G 0)), (2, .ref (zt_ad G 94)), (3, .ref (zt_ad G 122)), (4, .int u4)] → W p l e room_1 s m #[Value.ref b] below meth c H locs cN sN (lw_Z below #[Value.ref b] s) (F0 m 227 ls [.int y0, .int y1, .int y2, .ref (zt_ad G 0)]) := by
    intro rc23 hrc23 σ y0 y1 y2 u4 H locs ls j cN sN hf hj5 hc hs hj4 hP hS hl
    unfold f_L_law_227 at hf
    refine lv_aload_n hx hb dL_law_227 rfl (lv_at hl 3 rfl) ?_
    obtain ⟨⟨v264a, σ265a⟩, hvv264, hf⟩ := zt_bd_some hf
    obtain ⟨v264, hv264, hf⟩ := zt_lt_some hf; obtain ⟨σ265, hσ265, hf⟩ := zt_lt_some hf; rw [show (v264a, σ265a) = (v264, σ265) from by rw [hv264, hσ265]] at hvv264
    have hS2 : va_S (zt_A2 G s.heap.size) s.heap H locs := ⟨hS.1, fun q h1 h2 => hS.2.1 q h1 (fun z => h2 (Or.inr z)), fun q h => Or.inr (hS.2.2 q h)⟩
    refine vx_calli (vx_runSX (As := [.ref (zt_ad G 0), .int y2, .int y1, .int y0, .ref (zt_ad G 122)]) (rest := []) ⟨hx, hb, hml, hown, hts⟩ (m_L_need l hl2 G (σ := σ) hvv264) (vx_cwSW 5 hts gL_law_L_need rfl rfl rfl zh_L_need ⟨Nat.le_of_ble_eq_true rfl, Nat.le_of_ble_eq_true rfl⟩) ⟨zt_blind2, fun U hU hW => ⟨rfl, zt_go2 hE hX hP hS2 hU hW⟩⟩ rfl rfl hl.1 rfl (lv_room (Nat.le_of_ble_eq_true rfl)) dL_law_228 ⟨(show cN + 2 ≤ 601024 by omega), (show sN + 12 ≤ 7293034 by omega)⟩) hS (fun q h1 h2 => h2.elim (fun z => hGA q z) (fun z => absurd h1 (Nat.not_lt.mpr z))) (fun q h => h.elim (fun z => hGA q z) (fun z => Nat.le_trans hS.1 z)) (fun q h1 h2 => h2.elim (fun z => hGA q z) (fun z => absurd h1 (Nat.not_lt.mpr z))) (fun E ce q9 u t H locs ht hvm hw hB _ _ hS hce hcv hcl => hw.elim) (fun r u t H locs ht hvm hw hB _ _ hS => ?_)
    rw [hw.1]; have hB : zt_B G u t := hB; rw [hw.2] at hB; have hP := zt_B.P hB ht
    refine W.cs (cells' := cN + 2) (slots' := sN + 12) rfl rfl ?_
    refine lv_istore (lv' := [(5, .int v264), (0, .ref b), (1, .ref (zt_ad G 0)), (2, .ref (zt_ad G 94)), (3, .ref (zt_ad G 122)), (4, .int u4)]) hx hb dL_law_231 hl (by decide) rfl (fun ls hl => ?_)
    refine lv_aload_n hx hb dL_law_233 rfl (lv_at hl 3 rfl) ?_
    refine lv_aload_n hx hb dL_law_234 rfl (lv_at hl 1 rfl) ?_
    refine lv_iload hx hb dL_law_235 (lv_at hl 5 rfl) ?_
    refine lv_iconst (v := 1) hx hb dL_law_237 (by decide) ?_
    refine lv_iadd hx hb dL_law_238 ?_
    obtain ⟨g266, hf⟩ := zt_gd_some hf
    refine va_sld hx hb hXs hbl hbA hS (zt_gI_in g266) dL_law_239 ?_
    refine lv_aload_n hx hb dL_law_240 rfl (lv_at hl 1 rfl) ?_
    refine lv_iload hx hb dL_law_241 (lv_at hl 5 rfl) ?_
    refine lv_iconst (v := 2) hx hb dL_law_243 (by decide) ?_
    refine lv_iadd hx hb dL_law_244 ?_
    obtain ⟨g267, hf⟩ := zt_gd_some hf
    refine va_sld hx hb hXs hbl hbA hS (zt_gI_in g267) dL_law_245 ?_
    refine lv_aload_n hx hb dL_law_246 rfl (lv_at hl 1 rfl) ?_
    refine lv_iload hx hb dL_law_247 (lv_at hl 5 rfl) ?_
    refine lv_iconst (v := 3) hx hb dL_law_249 (by decide) ?_
    refine lv_iadd hx hb dL_law_250 ?_
    obtain ⟨g268, hf⟩ := zt_gd_some hf
    refine va_sld hx hb hXs hbl hbA hS (zt_gI_in g268) dL_law_251 ?_
    refine lv_if_eq (tgt := 259) hx hb dL_law_252 (by decide) (fun c269 => ?_) (fun c269 => ?_)
    · have hf := (if_pos c269).symm.trans hf
      refine lv_iconst (v := 0) hx hb dL_law_259 (by decide) ?_
      exact B260 rc23 hrc23 σ265 0 (xs (u4 + 2).toNatClampNeg) (xs (u4 + 1).toNatClampNeg) u4 v264 _ _ _ j (cN + 2) (sN + 12) hf hj5 (by omega) (by omega) hj4 hP hS (lv_sub hl [1, 2, 3, 4, 5, 0] rfl)
    · have hf := (if_neg c269).symm.trans hf
      refine lv_iconst (v := 1) hx hb dL_law_255 (by decide) ?_
      refine lv_goto (tgt := 260) hx hb dL_law_256 (by decide) ?_
      exact B260 rc23 hrc23 σ265 1 (xs (u4 + 2).toNatClampNeg) (xs (u4 + 1).toNatClampNeg) u4 v264 _ _ _ j (cN + 2) (sN + 12) hf hj5 (by omega) (by omega) hj4 hP hS (lv_sub hl [1, 2, 3, 4, 5, 0] rfl)
  have B385 : ∀ (rc23 : zt_St → Int32 → Option Int32) (hrc23 : ∀ (σ : zt_St) (u4 : Int32) (H : Heap) (locs : List Loc) (ls : Array Slot) (j cN sN : Nat), rc23 σ u4 = some 1 → 5 * j ≤ L → cN ≤ 2000 + 3 * j → sN ≤ 20000 + 18 * j → u4 = nI (5 * j) → va_P (zt_D G) vwCl (zt_ww G σ) H → va_S (fun q : Nat => s.heap.size ≤ q) s.heap H locs → lv_has ls 7 [(0, .ref b), (1, .ref (zt_ad G 0)), (2, .ref (zt_ad G 94)), (3, .ref (zt_ad G 122)), (4, .int u4)] → W p l e room_1 s m #[Value.ref b] below meth c H locs cN sN (lw_Z below #[Value.ref b] s) (F0 m 23 ls [])), ∀ (σ : zt_St) (u4 : Int32) (H : Heap) (locs : List Loc) (ls : Array Slot) (j cN sN : Nat), f_L_law_385 xs L rc23 σ u4 = some 1 → 5 * j + 5 ≤ L → cN ≤ 2003 + 3 * j → sN ≤ 20018 + 18 * j → u4 = nI (5 * j) → va_P (zt_D G) vwCl (zt_ww G σ) H → va_S (fun q : Nat => s.heap.size ≤ q) s.heap H locs → lv_has ls 7 [(0, .ref b), (1, .ref (zt_ad G 0)), (2, .ref (zt_ad G 94)), (3, .ref (zt_ad G 122)), (4, .int u4)] → W p l e room_1 s m #[Value.ref b] below meth c H locs cN sN (lw_Z below #[Value.ref b] s) (F0 m 385 ls []) := by
    intro rc23 hrc23 σ u4 H locs ls j cN sN hf hj5 hc hs hj4 hP hS hl
    unfold f_L_law_385 at hf
    refine lv_goto (tgt := 1488) hx hb dL_law_385 (by decide) ?_
    exact B1488 rc23 hrc23 σ u4 _ _ _ j cN sN hf hj5 (by omega) (by omega) hj4 hP hS (lv_sub hl [0, 1, 2, 3, 4] rfl)
  have B453 : ∀ (rc23 : zt_St → Int32 → Option Int32) (hrc23 : ∀ (σ : zt_St) (u4 : Int32) (H : Heap) (locs : List Loc) (ls : Array Slot) (j cN sN : Nat), rc23 σ u4 = some 1 → 5 * j ≤ L → cN ≤ 2000 + 3 * j → sN ≤ 20000 + 18 * j → u4 = nI (5 * j) → va_P (zt_D G) vwCl (zt_ww G σ) H → va_S (fun q : Nat => s.heap.size ≤ q) s.heap H locs → lv_has ls 7 [(0, .ref b), (1, .ref (zt_ad G 0)), (2, .ref (zt_ad G 94)), (3, .ref (zt_ad G 122)), (4, .int u4)] → W p l e room_1 s m #[Value.ref b] below meth c H locs cN sN (lw_Z below #[Value.ref b] s) (F0 m 23 ls [])), ∀ (σ : zt_St) (u4 : Int32) (H : Heap) (locs : List Loc) (ls : Array Slot) (j cN sN : Nat), f_L_law_453 xs L rc23 σ u4 = some 1 → 5 * j + 5 ≤ L → cN ≤ 2003 + 3 * j → sN ≤ 20018 + 18 * j → u4 = nI (5 * j) → va_P (zt_D G) vwCl (zt_ww G σ) H → va_S (fun q : Nat => s.heap.size ≤ q) s.heap H locs → lv_has ls 7 [(0, .ref b), (1, .ref (zt_ad G 0)), (2, .ref (zt_ad G 94)), (3, .ref (zt_ad G 122)), (4, .int u4)] → W p l e room_1 s m #[Value.ref b] below meth c H locs cN sN (lw_Z below #[Value.ref b] s) (F0 m 453 ls []) := by
    intro rc23 hrc23 σ u4 H locs ls j cN sN hf hj5 hc hs hj4 hP hS hl
    unfold f_L_law_453 at hf
    refine lv_goto (tgt := 1488) hx hb dL_law_453 (by decide) ?_
    exact B1488 rc23 hrc23 σ u4 _ _ _ j cN sN hf hj5 (by omega) (by omega) hj4 hP hS (lv_sub hl [0, 1, 2, 3, 4] rfl)
  have B516 : ∀ (rc23 : zt_St → Int32 → Option Int32) (hrc23 : ∀ (σ : zt_St) (u4 : Int32) (H : Heap) (locs : List Loc) (ls : Array Slot) (j cN sN : Nat), rc23 σ u4 = some 1 → 5 * j ≤ L → cN ≤ 2000 + 3 * j → sN ≤ 20000 + 18 * j → u4 = nI (5 * j) → va_P (zt_D G) vwCl (zt_ww G σ) H → va_S (fun q : Nat => s.heap.size ≤ q) s.heap H locs → lv_has ls 7 [(0, .ref b), (1, .ref (zt_ad G 0)), (2, .ref (zt_ad G 94)), (3, .ref (zt_ad G 122)), (4, .int u4)] → W p l e room_1 s m #[Value.ref b] below meth c H locs cN sN (lw_Z below #[Value.ref b] s) (F0 m 23 ls [])), ∀ (σ : zt_St) (u4 : Int32) (H : Heap) (locs : List Loc) (ls : Array Slot) (j cN sN : Nat), f_L_law_516 xs L rc23 σ u4 = some 1 → 5 * j + 5 ≤ L → cN ≤ 2003 + 3 * j → sN ≤ 20018 + 18 * j → u4 = nI (5 * j) → va_P (zt_D G) vwCl (zt_ww G σ) H → va_S (fun q : Nat => s.heap.size ≤ q) s.heap H locs → lv_has ls 7 [(0, .ref b), (1, .ref (zt_ad G 0)), (2, .ref (zt_ad G 94)), (3, .ref (zt_ad G 122)), (4, .int u4)] → W p l e room_1 s m #[Value.ref b] below meth c H locs cN sN (lw_Z below #[Value.ref b] s) (F0 m 516 ls []) := by
    intro rc23 hrc23 σ u4 H locs ls j cN sN hf hj5 hc hs hj4 hP hS hl
    unfold f_L_law_516 at hf
    refine lv_goto (tgt := 1488) hx hb dL_law_516 (by decide) ?_
    exact B1488 rc23 hrc23 σ u4 _ _ _ j cN sN hf hj5 (by omega) (by omega) hj4 hP hS (lv_sub hl [0, 1, 2, 3, 4] rfl)
  have B510 : ∀ (rc23 : zt_St → Int32 → Option Int32) (hrc23 : ∀ (σ : zt_St) (u4 : Int32) (H : Heap) (locs : List Loc) (ls : Array Slot) (j cN sN : Nat), rc23 σ u4 = some 1 → 5 * j ≤ L → cN ≤ 2000 + 3 * j → sN ≤ 20000 + 18 * j → u4 = nI (5 * j) → va_P (zt_D G) vwCl (zt_ww G σ) H → va_S (fun q : Nat => s.heap.size ≤ q) s.heap H locs → lv_has ls 7 [(0, .ref b), (1, .ref (zt_ad G 0)), (2, .ref (zt_ad G 94)), (3, .ref (zt_ad G 122)), (4, .int u4)] → W p l e room_1 s m #[Value.ref b] below meth c H locs cN sN (lw_Z below #[Value.ref b] s) (F0 m 23 ls [])), ∀ (σ : zt_St) (y0 : Int32) (y1 : Int32) (u4 : Int32) (H : Heap) (locs : List Loc) (ls : Array Slot) (j cN sN : Nat), f_L_law_510 xs L rc23 σ y0 y1 u4 = some 1 → 5 * j + 5 ≤ L → cN ≤ 2003 + 3 * j → sN ≤ 20018 + 18 * j → u4 = nI (5 * j) → va_P (zt_D G) vwCl (zt_ww G σ) H → va_S (fun q : Nat => s.heap.size ≤ q) s.heap H locs → lv_has ls 7 [(0, .ref b), (1, .ref (zt_ad G 0)), (2, .ref (zt_ad G 94)), (3, .ref (zt_ad G 122)), (4, .int u4)] → W p l e room_1 s m #[Value.ref b] below meth c H locs cN sN (lw_Z below #[Value.ref b] s) (F0 m 510 ls [.long (y0 : Int32).toInt64, .long (y1 : Int32).toInt64]) := by
    intro rc23 hrc23 σ y0 y1 u4 H locs ls j cN sN hf hj5 hc hs hj4 hP hS hl
    unfold f_L_law_510 at hf
    refine W.lcmp hx hb dL_law_510 ?_
    refine lv_if_eq (tgt := 516) hx hb dL_law_511 (by decide) (fun c270 => ?_) (fun c270 => ?_)
    · have hf := (if_pos c270).symm.trans hf
      exact B516 rc23 hrc23 σ u4 _ _ _ j cN sN hf hj5 (by omega) (by omega) hj4 hP hS (lv_sub hl [0, 1, 2, 3, 4] rfl)
    · have hf := (if_neg c270).symm.trans hf
      refine lv_iconst (v := 0) hx hb dL_law_514 (by decide) ?_
      exact absurd (Option.some.inj hf) (by decide)
  have B584 : ∀ (rc23 : zt_St → Int32 → Option Int32) (hrc23 : ∀ (σ : zt_St) (u4 : Int32) (H : Heap) (locs : List Loc) (ls : Array Slot) (j cN sN : Nat), rc23 σ u4 = some 1 → 5 * j ≤ L → cN ≤ 2000 + 3 * j → sN ≤ 20000 + 18 * j → u4 = nI (5 * j) → va_P (zt_D G) vwCl (zt_ww G σ) H → va_S (fun q : Nat => s.heap.size ≤ q) s.heap H locs → lv_has ls 7 [(0, .ref b), (1, .ref (zt_ad G 0)), (2, .ref (zt_ad G 94)), (3, .ref (zt_ad G 122)), (4, .int u4)] → W p l e room_1 s m #[Value.ref b] below meth c H locs cN sN (lw_Z below #[Value.ref b] s) (F0 m 23 ls [])), ∀ (σ : zt_St) (u4 : Int32) (H : Heap) (locs : List Loc) (ls : Array Slot) (j cN sN : Nat), f_L_law_584 xs L rc23 σ u4 = some 1 → 5 * j + 5 ≤ L → cN ≤ 2003 + 3 * j → sN ≤ 20018 + 18 * j → u4 = nI (5 * j) → va_P (zt_D G) vwCl (zt_ww G σ) H → va_S (fun q : Nat => s.heap.size ≤ q) s.heap H locs → lv_has ls 7 [(0, .ref b), (1, .ref (zt_ad G 0)), (2, .ref (zt_ad G 94)), (3, .ref (zt_ad G 122)), (4, .int u4)] → W p l e room_1 s m #[Value.ref b] below meth c H locs cN sN (lw_Z below #[Value.ref b] s) (F0 m 584 ls []) := by
    intro rc23 hrc23 σ u4 H locs ls j cN sN hf hj5 hc hs hj4 hP hS hl
    unfold f_L_law_584 at hf
    refine lv_goto (tgt := 1488) hx hb dL_law_584 (by decide) ?_
    exact B1488 rc23 hrc23 σ u4 _ _ _ j cN sN hf hj5 (by omega) (by omega) hj4 hP hS (lv_sub hl [0, 1, 2, 3, 4] rfl)
  have B664 : ∀ (rc23 : zt_St → Int32 → Option Int32) (hrc23 : ∀ (σ : zt_St) (u4 : Int32) (H : Heap) (locs : List Loc) (ls : Array Slot) (j cN sN : Nat), rc23 σ u4 = some 1 → 5 * j ≤ L → cN ≤ 2000 + 3 * j → sN ≤ 20000 + 18 * j → u4 = nI (5 * j) → va_P (zt_D G) vwCl (zt_ww G σ) H → va_S (fun q : Nat => s.heap.size ≤ q) s.heap H locs → lv_has ls 7 [(0, .ref b), (1, .ref (zt_ad G 0)), (2, .ref (zt_ad G 94)), (3, .ref (zt_ad G 122)), (4, .int u4)] → W p l e room_1 s m #[Value.ref b] below meth c H locs cN sN (lw_Z below #[Value.ref b] s) (F0 m 23 ls [])), ∀ (σ : zt_St) (u4 : Int32) (H : Heap) (locs : List Loc) (ls : Array Slot) (j cN sN : Nat), f_L_law_664 xs L rc23 σ u4 = some 1 → 5 * j + 5 ≤ L → cN ≤ 2003 + 3 * j → sN ≤ 20018 + 18 * j → u4 = nI (5 * j) → va_P (zt_D G) vwCl (zt_ww G σ) H → va_S (fun q : Nat => s.heap.size ≤ q) s.heap H locs → lv_has ls 7 [(0, .ref b), (1, .ref (zt_ad G 0)), (2, .ref (zt_ad G 94)), (3, .ref (zt_ad G 122)), (4, .int u4)] → W p l e room_1 s m #[Value.ref b] below meth c H locs cN sN (lw_Z below #[Value.ref b] s) (F0 m 664 ls []) := by
    intro rc23 hrc23 σ u4 H locs ls j cN sN hf hj5 hc hs hj4 hP hS hl
    unfold f_L_law_664 at hf
    refine lv_goto (tgt := 1488) hx hb dL_law_664 (by decide) ?_
    exact B1488 rc23 hrc23 σ u4 _ _ _ j cN sN hf hj5 (by omega) (by omega) hj4 hP hS (lv_sub hl [0, 1, 2, 3, 4] rfl)
  have B720 : ∀ (rc23 : zt_St → Int32 → Option Int32) (hrc23 : ∀ (σ : zt_St) (u4 : Int32) (H : Heap) (locs : List Loc) (ls : Array Slot) (j cN sN : Nat), rc23 σ u4 = some 1 → 5 * j ≤ L → cN ≤ 2000 + 3 * j → sN ≤ 20000 + 18 * j → u4 = nI (5 * j) → va_P (zt_D G) vwCl (zt_ww G σ) H → va_S (fun q : Nat => s.heap.size ≤ q) s.heap H locs → lv_has ls 7 [(0, .ref b), (1, .ref (zt_ad G 0)), (2, .ref (zt_ad G 94)), (3, .ref (zt_ad G 122)), (4, .int u4)] → W p l e room_1 s m #[Value.ref b] below meth c H locs cN sN (lw_Z below #[Value.ref b] s) (F0 m 23 ls [])), ∀ (σ : zt_St) (u4 : Int32) (H : Heap) (locs : List Loc) (ls : Array Slot) (j cN sN : Nat), f_L_law_720 xs L rc23 σ u4 = some 1 → 5 * j + 5 ≤ L → cN ≤ 2003 + 3 * j → sN ≤ 20018 + 18 * j → u4 = nI (5 * j) → va_P (zt_D G) vwCl (zt_ww G σ) H → va_S (fun q : Nat => s.heap.size ≤ q) s.heap H locs → lv_has ls 7 [(0, .ref b), (1, .ref (zt_ad G 0)), (2, .ref (zt_ad G 94)), (3, .ref (zt_ad G 122)), (4, .int u4)] → W p l e room_1 s m #[Value.ref b] below meth c H locs cN sN (lw_Z below #[Value.ref b] s) (F0 m 720 ls []) := by
    intro rc23 hrc23 σ u4 H locs ls j cN sN hf hj5 hc hs hj4 hP hS hl
    unfold f_L_law_720 at hf
    refine lv_goto (tgt := 1488) hx hb dL_law_720 (by decide) ?_
    exact B1488 rc23 hrc23 σ u4 _ _ _ j cN sN hf hj5 (by omega) (by omega) hj4 hP hS (lv_sub hl [0, 1, 2, 3, 4] rfl)
  have B770 : ∀ (rc23 : zt_St → Int32 → Option Int32) (hrc23 : ∀ (σ : zt_St) (u4 : Int32) (H : Heap) (locs : List Loc) (ls : Array Slot) (j cN sN : Nat), rc23 σ u4 = some 1 → 5 * j ≤ L → cN ≤ 2000 + 3 * j → sN ≤ 20000 + 18 * j → u4 = nI (5 * j) → va_P (zt_D G) vwCl (zt_ww G σ) H → va_S (fun q : Nat => s.heap.size ≤ q) s.heap H locs → lv_has ls 7 [(0, .ref b), (1, .ref (zt_ad G 0)), (2, .ref (zt_ad G 94)), (3, .ref (zt_ad G 122)), (4, .int u4)] → W p l e room_1 s m #[Value.ref b] below meth c H locs cN sN (lw_Z below #[Value.ref b] s) (F0 m 23 ls [])), ∀ (σ : zt_St) (y0 : Int32) (y1 : Int32) (u4 : Int32) (u5 : Int32) (H : Heap) (locs : List Loc) (ls : Array Slot) (j cN sN : Nat), f_L_law_770 xs L rc23 σ y0 y1 u4 u5 = some 1 → 5 * j + 5 ≤ L → cN ≤ 2003 + 3 * j → sN ≤ 20018 + 18 * j → u4 = nI (5 * j) → va_P (zt_D G) vwCl (zt_ww G σ) H → va_S (fun q : Nat => s.heap.size ≤ q) s.heap H locs → lv_has ls 7 [(0, .ref b), (1, .ref (zt_ad G 0)), (2, .ref (zt_ad G 94)), (3, .ref (zt_ad G 122)), (4, .int u4), (5, .int u5)] → W p l e room_1 s m #[Value.ref b] below meth c H locs cN sN (lw_Z below #[Value.ref b] s) (F0 m 770 ls [.int y0, .int y1, .ref (zt_ad G 94)]) := by
    intro rc23 hrc23 σ y0 y1 u4 u5 H locs ls j cN sN hf hj5 hc hs hj4 hP hS hl
    unfold f_L_law_770 at hf
    obtain ⟨σ291, hvv290, hf⟩ := zt_bd_some hf
    refine va_callv (va_runV (As := [.int y1, .int y0]) (rest := []) ⟨hx, hb, hml, hown, hts⟩ (m_X9_setDead l G (σ := σ) hvv290) (cwV 2 hts gL_law_X9_setDead rfl rfl rfl zh_X9_setDead ⟨Nat.le_of_ble_eq_true rfl, Nat.le_of_ble_eq_true rfl⟩) ⟨zt_blind, va_recv hK hP (ci := 8) (q0 := 94) rfl (zt_a8 (rfl : zt_kd 94 = 8)), fun U hU hW => ⟨rfl, zt_go hE hP hS hvac hU hW⟩⟩ rfl rfl hl.1 rfl (lv_room (Nat.le_of_ble_eq_true rfl)) dL_law_770 ⟨(show cN + 0 ≤ 601024 by omega), (show sN + 0 ≤ 7293034 by omega)⟩) hS (fun q _ h => hGA q h) (fun q h => hGA q h) (fun u t H locs ht hvm hw hB _ _ hS => ?_)
    have hB : zt_B G u t := hB; rw [hw] at hB; have hP := zt_B.P hB ht
    refine W.cs (cells' := cN) (slots' := sN) rfl rfl ?_
    refine lv_aload_n hx hb dL_law_773 rfl (lv_at hl 2 rfl) ?_
    obtain ⟨v292, hvv292, hf⟩ := zt_bd_some hf
    refine va_calli (va_runV (As := []) (rest := []) ⟨hx, hb, hml, hown, hts⟩ (m_X9_thrown l G (σ := σ291) hvv292) (cwV 0 hts gL_law_X9_thrown rfl rfl rfl zh_X9_thrown ⟨Nat.le_of_ble_eq_true rfl, Nat.le_of_ble_eq_true rfl⟩) ⟨zt_blind, va_recv hK hP (ci := 8) (q0 := 94) rfl (zt_a8 (rfl : zt_kd 94 = 8)), fun U hU hW => ⟨rfl, zt_go hE hP hS hvac hU hW⟩⟩ rfl rfl hl.1 rfl (lv_room (Nat.le_of_ble_eq_true rfl)) dL_law_774 ⟨(show cN + 0 ≤ 601024 by omega), (show sN + 0 ≤ 7293034 by omega)⟩) hS (fun q _ h => hGA q h) (fun q h => hGA q h) (fun r u t H locs ht hvm hw hB _ _ hS => ?_)
    rw [hw.1]; have hB : zt_B G u t := hB; rw [hw.2] at hB; have hP := zt_B.P hB ht
    refine W.cs (cells' := cN) (slots' := sN) rfl rfl ?_
    refine lv_iload hx hb dL_law_777 (lv_at hl 5 rfl) ?_
    refine lv_icmp_eq (tgt := 784) hx hb dL_law_779 (by decide) (fun c294 => ?_) (fun c294 => ?_)
    · have hf := (if_pos c294).symm.trans hf
      refine lv_goto (tgt := 1488) hx hb dL_law_784 (by decide) ?_
      exact B1488 rc23 hrc23 σ291 u4 _ _ _ j cN sN hf hj5 (by omega) (by omega) hj4 hP hS (lv_sub hl [0, 1, 2, 3, 4] rfl)
    · have hf := (if_neg c294).symm.trans hf
      refine lv_iconst (v := 0) hx hb dL_law_782 (by decide) ?_
      exact absurd (Option.some.inj hf) (by decide)
  have B744 : ∀ (rc23 : zt_St → Int32 → Option Int32) (hrc23 : ∀ (σ : zt_St) (u4 : Int32) (H : Heap) (locs : List Loc) (ls : Array Slot) (j cN sN : Nat), rc23 σ u4 = some 1 → 5 * j ≤ L → cN ≤ 2000 + 3 * j → sN ≤ 20000 + 18 * j → u4 = nI (5 * j) → va_P (zt_D G) vwCl (zt_ww G σ) H → va_S (fun q : Nat => s.heap.size ≤ q) s.heap H locs → lv_has ls 7 [(0, .ref b), (1, .ref (zt_ad G 0)), (2, .ref (zt_ad G 94)), (3, .ref (zt_ad G 122)), (4, .int u4)] → W p l e room_1 s m #[Value.ref b] below meth c H locs cN sN (lw_Z below #[Value.ref b] s) (F0 m 23 ls [])), ∀ (σ : zt_St) (y0 : Int32) (y1 : Int32) (u4 : Int32) (H : Heap) (locs : List Loc) (ls : Array Slot) (j cN sN : Nat), f_L_law_744 xs L rc23 σ y0 y1 u4 = some 1 → 5 * j + 5 ≤ L → cN ≤ 2000 + 3 * j → sN ≤ 20000 + 18 * j → u4 = nI (5 * j) → va_P (zt_D G) vwCl (zt_ww G σ) H → va_S (fun q : Nat => s.heap.size ≤ q) s.heap H locs → lv_has ls 7 [(0, .ref b), (1, .ref (zt_ad G 0)), (2, .ref (zt_ad G 94)), (3, .ref (zt_ad G 122)), (4, .int u4)] → W p l e room_1 s m #[Value.ref b] below meth c H locs cN sN (lw_Z below #[Value.ref b] s) (F0 m 744 ls [.int y0, .int y1, .ref (zt_ad G 0)]) := by
    intro rc23 hrc23 σ y0 y1 u4 H locs ls j cN sN hf hj5 hc hs hj4 hP hS hl
    unfold f_L_law_744 at hf
    obtain ⟨⟨v271a, σ272a⟩, hvv271, hf⟩ := zt_bd_some hf
    obtain ⟨v271, hv271, hf⟩ := zt_lt_some hf; obtain ⟨σ272, hσ272, hf⟩ := zt_lt_some hf; rw [show (v271a, σ272a) = (v271, σ272) from by rw [hv271, hσ272]] at hvv271
    have hS2 : va_S (zt_A2 G s.heap.size) s.heap H locs := ⟨hS.1, fun q h1 h2 => hS.2.1 q h1 (fun z => h2 (Or.inr z)), fun q h => Or.inr (hS.2.2 q h)⟩
    refine vx_calli (vx_runSX (As := [.ref (zt_ad G 0), .int y1, .int y0]) (rest := []) ⟨hx, hb, hml, hown, hts⟩ (m_L_setDead l hl2 G (σ := σ) hvv271) (vx_cwSW 3 hts gL_law_L_setDead rfl rfl rfl zh_L_setDead ⟨Nat.le_of_ble_eq_true rfl, Nat.le_of_ble_eq_true rfl⟩) ⟨zt_blind2, fun U hU hW => ⟨rfl, zt_go2 hE hX hP hS2 hU hW⟩⟩ rfl rfl hl.1 rfl (lv_room (Nat.le_of_ble_eq_true rfl)) dL_law_744 ⟨(show cN + 1 ≤ 601024 by omega), (show sN + 6 ≤ 7293034 by omega)⟩) hS (fun q h1 h2 => h2.elim (fun z => hGA q z) (fun z => absurd h1 (Nat.not_lt.mpr z))) (fun q h => h.elim (fun z => hGA q z) (fun z => Nat.le_trans hS.1 z)) (fun q h1 h2 => h2.elim (fun z => hGA q z) (fun z => absurd h1 (Nat.not_lt.mpr z))) (fun E ce q9 u t H locs ht hvm hw hB _ _ hS hce hcv hcl => hw.elim) (fun r u t H locs ht hvm hw hB _ _ hS => ?_)
    rw [hw.1]; have hB : zt_B G u t := hB; rw [hw.2] at hB; have hP := zt_B.P hB ht
    refine W.cs (cells' := cN + 1) (slots' := sN + 6) rfl rfl ?_
    refine lv_istore (lv' := [(5, .int v271), (0, .ref b), (1, .ref (zt_ad G 0)), (2, .ref (zt_ad G 94)), (3, .ref (zt_ad G 122)), (4, .int u4)]) hx hb dL_law_747 hl (by decide) rfl (fun ls hl => ?_)
    refine lv_aload_n hx hb dL_law_749 rfl (lv_at hl 3 rfl) ?_
    refine lv_aload_n hx hb dL_law_750 rfl (lv_at hl 1 rfl) ?_
    refine lv_iload hx hb dL_law_751 (lv_at hl 5 rfl) ?_
    refine lv_iconst (v := 1) hx hb dL_law_753 (by decide) ?_
    refine lv_iadd hx hb dL_law_754 ?_
    obtain ⟨g273, hf⟩ := zt_gd_some hf
    refine va_sld hx hb hXs hbl hbA hS (zt_gI_in g273) dL_law_755 ?_
    refine lv_aload_n hx hb dL_law_756 rfl (lv_at hl 1 rfl) ?_
    refine lv_iload hx hb dL_law_757 (lv_at hl 5 rfl) ?_
    refine lv_iconst (v := 2) hx hb dL_law_759 (by decide) ?_
    refine lv_iadd hx hb dL_law_760 ?_
    obtain ⟨g274, hf⟩ := zt_gd_some hf
    refine va_sld hx hb hXs hbl hbA hS (zt_gI_in g274) dL_law_761 ?_
    refine lv_if_eq (tgt := 769) hx hb dL_law_762 (by decide) (fun c275 => ?_) (fun c275 => ?_)
    · have hf := (if_pos c275).symm.trans hf
      refine lv_iconst (v := 0) hx hb dL_law_769 (by decide) ?_
      exact B770 rc23 hrc23 σ272 0 (xs (u4 + 1).toNatClampNeg) u4 v271 _ _ _ j (cN + 1) (sN + 6) hf hj5 (by omega) (by omega) hj4 hP hS (lv_sub hl [1, 2, 3, 4, 5, 0] rfl)
    · have hf := (if_neg c275).symm.trans hf
      refine lv_iconst (v := 1) hx hb dL_law_765 (by decide) ?_
      refine lv_goto (tgt := 770) hx hb dL_law_766 (by decide) ?_
      exact B770 rc23 hrc23 σ272 1 (xs (u4 + 1).toNatClampNeg) u4 v271 _ _ _ j (cN + 1) (sN + 6) hf hj5 (by omega) (by omega) hj4 hP hS (lv_sub hl [1, 2, 3, 4, 5, 0] rfl)
  have B864 : ∀ (rc23 : zt_St → Int32 → Option Int32) (hrc23 : ∀ (σ : zt_St) (u4 : Int32) (H : Heap) (locs : List Loc) (ls : Array Slot) (j cN sN : Nat), rc23 σ u4 = some 1 → 5 * j ≤ L → cN ≤ 2000 + 3 * j → sN ≤ 20000 + 18 * j → u4 = nI (5 * j) → va_P (zt_D G) vwCl (zt_ww G σ) H → va_S (fun q : Nat => s.heap.size ≤ q) s.heap H locs → lv_has ls 7 [(0, .ref b), (1, .ref (zt_ad G 0)), (2, .ref (zt_ad G 94)), (3, .ref (zt_ad G 122)), (4, .int u4)] → W p l e room_1 s m #[Value.ref b] below meth c H locs cN sN (lw_Z below #[Value.ref b] s) (F0 m 23 ls [])), ∀ (σ : zt_St) (u4 : Int32) (H : Heap) (locs : List Loc) (ls : Array Slot) (j cN sN : Nat), f_L_law_864 xs L rc23 σ u4 = some 1 → 5 * j + 5 ≤ L → cN ≤ 2003 + 3 * j → sN ≤ 20018 + 18 * j → u4 = nI (5 * j) → va_P (zt_D G) vwCl (zt_ww G σ) H → va_S (fun q : Nat => s.heap.size ≤ q) s.heap H locs → lv_has ls 7 [(0, .ref b), (1, .ref (zt_ad G 0)), (2, .ref (zt_ad G 94)), (3, .ref (zt_ad G 122)), (4, .int u4)] → W p l e room_1 s m #[Value.ref b] below meth c H locs cN sN (lw_Z below #[Value.ref b] s) (F0 m 864 ls []) := by
    intro rc23 hrc23 σ u4 H locs ls j cN sN hf hj5 hc hs hj4 hP hS hl
    unfold f_L_law_864 at hf
    refine lv_goto (tgt := 1488) hx hb dL_law_864 (by decide) ?_
    exact B1488 rc23 hrc23 σ u4 _ _ _ j cN sN hf hj5 (by omega) (by omega) hj4 hP hS (lv_sub hl [0, 1, 2, 3, 4] rfl)
  have B920 : ∀ (rc23 : zt_St → Int32 → Option Int32) (hrc23 : ∀ (σ : zt_St) (u4 : Int32) (H : Heap) (locs : List Loc) (ls : Array Slot) (j cN sN : Nat), rc23 σ u4 = some 1 → 5 * j ≤ L → cN ≤ 2000 + 3 * j → sN ≤ 20000 + 18 * j → u4 = nI (5 * j) → va_P (zt_D G) vwCl (zt_ww G σ) H → va_S (fun q : Nat => s.heap.size ≤ q) s.heap H locs → lv_has ls 7 [(0, .ref b), (1, .ref (zt_ad G 0)), (2, .ref (zt_ad G 94)), (3, .ref (zt_ad G 122)), (4, .int u4)] → W p l e room_1 s m #[Value.ref b] below meth c H locs cN sN (lw_Z below #[Value.ref b] s) (F0 m 23 ls [])), ∀ (σ : zt_St) (u4 : Int32) (H : Heap) (locs : List Loc) (ls : Array Slot) (j cN sN : Nat), f_L_law_920 xs L rc23 σ u4 = some 1 → 5 * j + 5 ≤ L → cN ≤ 2003 + 3 * j → sN ≤ 20018 + 18 * j → u4 = nI (5 * j) → va_P (zt_D G) vwCl (zt_ww G σ) H → va_S (fun q : Nat => s.heap.size ≤ q) s.heap H locs → lv_has ls 7 [(0, .ref b), (1, .ref (zt_ad G 0)), (2, .ref (zt_ad G 94)), (3, .ref (zt_ad G 122)), (4, .int u4)] → W p l e room_1 s m #[Value.ref b] below meth c H locs cN sN (lw_Z below #[Value.ref b] s) (F0 m 920 ls []) := by
    intro rc23 hrc23 σ u4 H locs ls j cN sN hf hj5 hc hs hj4 hP hS hl
    unfold f_L_law_920 at hf
    refine lv_goto (tgt := 1488) hx hb dL_law_920 (by decide) ?_
    exact B1488 rc23 hrc23 σ u4 _ _ _ j cN sN hf hj5 (by omega) (by omega) hj4 hP hS (lv_sub hl [0, 1, 2, 3, 4] rfl)
  have B1016 : ∀ (rc23 : zt_St → Int32 → Option Int32) (hrc23 : ∀ (σ : zt_St) (u4 : Int32) (H : Heap) (locs : List Loc) (ls : Array Slot) (j cN sN : Nat), rc23 σ u4 = some 1 → 5 * j ≤ L → cN ≤ 2000 + 3 * j → sN ≤ 20000 + 18 * j → u4 = nI (5 * j) → va_P (zt_D G) vwCl (zt_ww G σ) H → va_S (fun q : Nat => s.heap.size ≤ q) s.heap H locs → lv_has ls 7 [(0, .ref b), (1, .ref (zt_ad G 0)), (2, .ref (zt_ad G 94)), (3, .ref (zt_ad G 122)), (4, .int u4)] → W p l e room_1 s m #[Value.ref b] below meth c H locs cN sN (lw_Z below #[Value.ref b] s) (F0 m 23 ls [])), ∀ (σ : zt_St) (u4 : Int32) (H : Heap) (locs : List Loc) (ls : Array Slot) (j cN sN : Nat), f_L_law_1016 xs L rc23 σ u4 = some 1 → 5 * j + 5 ≤ L → cN ≤ 2003 + 3 * j → sN ≤ 20018 + 18 * j → u4 = nI (5 * j) → va_P (zt_D G) vwCl (zt_ww G σ) H → va_S (fun q : Nat => s.heap.size ≤ q) s.heap H locs → lv_has ls 7 [(0, .ref b), (1, .ref (zt_ad G 0)), (2, .ref (zt_ad G 94)), (3, .ref (zt_ad G 122)), (4, .int u4)] → W p l e room_1 s m #[Value.ref b] below meth c H locs cN sN (lw_Z below #[Value.ref b] s) (F0 m 1016 ls []) := by
    intro rc23 hrc23 σ u4 H locs ls j cN sN hf hj5 hc hs hj4 hP hS hl
    unfold f_L_law_1016 at hf
    refine lv_goto (tgt := 1488) hx hb dL_law_1016 (by decide) ?_
    exact B1488 rc23 hrc23 σ u4 _ _ _ j cN sN hf hj5 (by omega) (by omega) hj4 hP hS (lv_sub hl [0, 1, 2, 3, 4] rfl)
  have B983 : ∀ (rc23 : zt_St → Int32 → Option Int32) (hrc23 : ∀ (σ : zt_St) (u4 : Int32) (H : Heap) (locs : List Loc) (ls : Array Slot) (j cN sN : Nat), rc23 σ u4 = some 1 → 5 * j ≤ L → cN ≤ 2000 + 3 * j → sN ≤ 20000 + 18 * j → u4 = nI (5 * j) → va_P (zt_D G) vwCl (zt_ww G σ) H → va_S (fun q : Nat => s.heap.size ≤ q) s.heap H locs → lv_has ls 7 [(0, .ref b), (1, .ref (zt_ad G 0)), (2, .ref (zt_ad G 94)), (3, .ref (zt_ad G 122)), (4, .int u4)] → W p l e room_1 s m #[Value.ref b] below meth c H locs cN sN (lw_Z below #[Value.ref b] s) (F0 m 23 ls [])), ∀ (σ : zt_St) (y0 : Int32) (y1 : Int32) (y2 : Int32) (u4 : Int32) (u5 : Int32) (H : Heap) (locs : List Loc) (ls : Array Slot) (j cN sN : Nat), f_L_law_983 xs L rc23 σ y0 y1 y2 u4 u5 = some 1 → 5 * j + 5 ≤ L → cN ≤ 2003 + 3 * j → sN ≤ 20018 + 18 * j → u4 = nI (5 * j) → va_P (zt_D G) vwCl (zt_ww G σ) H → va_S (fun q : Nat => s.heap.size ≤ q) s.heap H locs → lv_has ls 7 [(0, .ref b), (1, .ref (zt_ad G 0)), (2, .ref (zt_ad G 94)), (3, .ref (zt_ad G 122)), (4, .int u4), (5, .int u5)] → W p l e room_1 s m #[Value.ref b] below meth c H locs cN sN (lw_Z below #[Value.ref b] s) (F0 m 983 ls [.int y0, .int y1, .int y2, .ref (zt_ad G 94)]) := by
    intro rc23 hrc23 σ y0 y1 y2 u4 u5 H locs ls j cN sN hf hj5 hc hs hj4 hP hS hl
    unfold f_L_law_983 at hf
    obtain ⟨⟨v295a, σ296a⟩, hvv295, hf⟩ := zt_bd_some hf
    obtain ⟨v295, hv295, hf⟩ := zt_lt_some hf; obtain ⟨σ296, hσ296, hf⟩ := zt_lt_some hf; rw [show (v295a, σ296a) = (v295, σ296) from by rw [hv295, hσ296]] at hvv295
    refine va_calli (va_runV (As := [.int y2, .int y1, .int y0]) (rest := []) ⟨hx, hb, hml, hown, hts⟩ (m_X9_neighbour l G (σ := σ) hvv295) (cwV 3 hts gL_law_X9_neighbour rfl rfl rfl zh_X9_neighbour ⟨Nat.le_of_ble_eq_true rfl, Nat.le_of_ble_eq_true rfl⟩) ⟨zt_blind, va_recv hK hP (ci := 8) (q0 := 94) rfl (zt_a8 (rfl : zt_kd 94 = 8)), fun U hU hW => ⟨rfl, zt_go hE hP hS hvac hU hW⟩⟩ rfl rfl hl.1 rfl (lv_room (Nat.le_of_ble_eq_true rfl)) dL_law_983 ⟨(show cN + 0 ≤ 601024 by omega), (show sN + 0 ≤ 7293034 by omega)⟩) hS (fun q _ h => hGA q h) (fun q h => hGA q h) (fun r u t H locs ht hvm hw hB _ _ hS => ?_)
    rw [hw.1]; have hB : zt_B G u t := hB; rw [hw.2] at hB; have hP := zt_B.P hB ht
    refine W.cs (cells' := cN) (slots' := sN) rfl rfl ?_
    refine lv_istore (lv' := [(6, .int v295), (0, .ref b), (1, .ref (zt_ad G 0)), (2, .ref (zt_ad G 94)), (3, .ref (zt_ad G 122)), (4, .int u4), (5, .int u5)]) hx hb dL_law_986 hl (by decide) rfl (fun ls hl => ?_)
    refine lv_aload_n hx hb dL_law_988 rfl (lv_at hl 3 rfl) ?_
    obtain ⟨v298, hvv298, hf⟩ := zt_bd_some hf
    refine va_calli (va_runV (As := []) (rest := []) ⟨hx, hb, hml, hown, hts⟩ (m_X9_thrown l G (σ := σ296) hvv298) (cwV 0 hts gL_law_X9_thrown rfl rfl rfl zh_X9_thrown ⟨Nat.le_of_ble_eq_true rfl, Nat.le_of_ble_eq_true rfl⟩) ⟨zt_blind, va_recv hK hP (ci := 8) (q0 := 94) rfl (zt_a8 (rfl : zt_kd 94 = 8)), fun U hU hW => ⟨rfl, zt_go hE hP hS hvac hU hW⟩⟩ rfl rfl hl.1 rfl (lv_room (Nat.le_of_ble_eq_true rfl)) dL_law_989 ⟨(show cN + 0 ≤ 601024 by omega), (show sN + 0 ≤ 7293034 by omega)⟩) hS (fun q _ h => hGA q h) (fun q h => hGA q h) (fun r u t H locs ht hvm hw hB _ _ hS => ?_)
    rw [hw.1]; have hB : zt_B G u t := hB; rw [hw.2] at hB; have hP := zt_B.P hB ht
    refine W.cs (cells' := cN) (slots' := sN) rfl rfl ?_
    refine lv_iload hx hb dL_law_992 (lv_at hl 6 rfl) ?_
    refine lv_icmp_eq (tgt := 999) hx hb dL_law_994 (by decide) (fun c300 => ?_) (fun c300 => ?_)
    · have hf := (if_pos c300).symm.trans hf
      refine lv_iload hx hb dL_law_999 (lv_at hl 6 rfl) ?_
      refine lv_if_ne (tgt := 1016) hx hb dL_law_1001 (by decide) (fun c301 => ?_) (fun c301 => ?_)
      · have hf := (if_neg c301).symm.trans hf
        exact B1016 rc23 hrc23 σ296 u4 _ _ _ j cN sN hf hj5 (by omega) (by omega) hj4 hP hS (lv_sub hl [1, 2, 3, 4, 5] rfl)
      · have hf := (if_pos c301).symm.trans hf
        refine lv_aload_n hx hb dL_law_1004 rfl (lv_at hl 4 rfl) ?_
        refine lv_iconst (v := 0) hx hb dL_law_1005 (by decide) ?_
        refine va_lald hx hb hK hP 122 3 (zt_a12 (k := 122) rfl) rfl (zt_gI_in (show zt_gI 0 1 = true by decide +kernel)) dL_law_1006 ?_
        rw [show ((0 : Int32).toNatClampNeg) = 0 from by decide]
        refine lv_iload hx hb dL_law_1007 (lv_at hl 0 rfl) ?_
        refine lv_i2l (v := (v295 : Int32).toInt64) hx hb dL_law_1009 rfl ?_
        refine W.lcmp hx hb dL_law_1010 ?_
        refine lv_if_eq (tgt := 1016) hx hb dL_law_1011 (by decide) (fun c302 => ?_) (fun c302 => ?_)
        · have hf := (if_pos c302).symm.trans hf
          exact B1016 rc23 hrc23 σ296 u4 _ _ _ j cN sN hf hj5 (by omega) (by omega) hj4 hP hS (lv_sub hl [1, 2, 3, 4, 5] rfl)
        · have hf := (if_neg c302).symm.trans hf
          refine lv_iconst (v := 0) hx hb dL_law_1014 (by decide) ?_
          exact absurd (Option.some.inj hf) (by decide)
    · have hf := (if_neg c300).symm.trans hf
      refine lv_iconst (v := 0) hx hb dL_law_997 (by decide) ?_
      exact absurd (Option.some.inj hf) (by decide)
  have B950 : ∀ (rc23 : zt_St → Int32 → Option Int32) (hrc23 : ∀ (σ : zt_St) (u4 : Int32) (H : Heap) (locs : List Loc) (ls : Array Slot) (j cN sN : Nat), rc23 σ u4 = some 1 → 5 * j ≤ L → cN ≤ 2000 + 3 * j → sN ≤ 20000 + 18 * j → u4 = nI (5 * j) → va_P (zt_D G) vwCl (zt_ww G σ) H → va_S (fun q : Nat => s.heap.size ≤ q) s.heap H locs → lv_has ls 7 [(0, .ref b), (1, .ref (zt_ad G 0)), (2, .ref (zt_ad G 94)), (3, .ref (zt_ad G 122)), (4, .int u4)] → W p l e room_1 s m #[Value.ref b] below meth c H locs cN sN (lw_Z below #[Value.ref b] s) (F0 m 23 ls [])), ∀ (σ : zt_St) (y0 : Int32) (y1 : Int32) (y2 : Int32) (u4 : Int32) (H : Heap) (locs : List Loc) (ls : Array Slot) (j cN sN : Nat), f_L_law_950 xs L rc23 σ y0 y1 y2 u4 = some 1 → 5 * j + 5 ≤ L → cN ≤ 2000 + 3 * j → sN ≤ 20000 + 18 * j → u4 = nI (5 * j) → va_P (zt_D G) vwCl (zt_ww G σ) H → va_S (fun q : Nat => s.heap.size ≤ q) s.heap H locs → lv_has ls 7 [(0, .ref b), (1, .ref (zt_ad G 0)), (2, .ref (zt_ad G 94)), (3, .ref (zt_ad G 122)), (4, .int u4)] → W p l e room_1 s m #[Value.ref b] below meth c H locs cN sN (lw_Z below #[Value.ref b] s) (F0 m 950 ls [.int y0, .int y1, .int y2, .ref (zt_ad G 0)]) := by
    intro rc23 hrc23 σ y0 y1 y2 u4 H locs ls j cN sN hf hj5 hc hs hj4 hP hS hl
    unfold f_L_law_950 at hf
    refine lv_aload_n hx hb dL_law_950 rfl (lv_at hl 3 rfl) ?_
    obtain ⟨⟨v276a, σ277a⟩, hvv276, hf⟩ := zt_bd_some hf
    obtain ⟨v276, hv276, hf⟩ := zt_lt_some hf; obtain ⟨σ277, hσ277, hf⟩ := zt_lt_some hf; rw [show (v276a, σ277a) = (v276, σ277) from by rw [hv276, hσ277]] at hvv276
    have hS2 : va_S (zt_A2 G s.heap.size) s.heap H locs := ⟨hS.1, fun q h1 h2 => hS.2.1 q h1 (fun z => h2 (Or.inr z)), fun q h => Or.inr (hS.2.2 q h)⟩
    refine vx_calli (vx_runSX (As := [.ref (zt_ad G 0), .int y2, .int y1, .int y0, .ref (zt_ad G 122)]) (rest := []) ⟨hx, hb, hml, hown, hts⟩ (m_L_neighbour l hl2 G (σ := σ) hvv276) (vx_cwSW 5 hts gL_law_L_neighbour rfl rfl rfl zh_L_neighbour ⟨Nat.le_of_ble_eq_true rfl, Nat.le_of_ble_eq_true rfl⟩) ⟨zt_blind2, fun U hU hW => ⟨rfl, zt_go2 hE hX hP hS2 hU hW⟩⟩ rfl rfl hl.1 rfl (lv_room (Nat.le_of_ble_eq_true rfl)) dL_law_951 ⟨(show cN + 2 ≤ 601024 by omega), (show sN + 12 ≤ 7293034 by omega)⟩) hS (fun q h1 h2 => h2.elim (fun z => hGA q z) (fun z => absurd h1 (Nat.not_lt.mpr z))) (fun q h => h.elim (fun z => hGA q z) (fun z => Nat.le_trans hS.1 z)) (fun q h1 h2 => h2.elim (fun z => hGA q z) (fun z => absurd h1 (Nat.not_lt.mpr z))) (fun E ce q9 u t H locs ht hvm hw hB _ _ hS hce hcv hcl => hw.elim) (fun r u t H locs ht hvm hw hB _ _ hS => ?_)
    rw [hw.1]; have hB : zt_B G u t := hB; rw [hw.2] at hB; have hP := zt_B.P hB ht
    refine W.cs (cells' := cN + 2) (slots' := sN + 12) rfl rfl ?_
    refine lv_istore (lv' := [(5, .int v276), (0, .ref b), (1, .ref (zt_ad G 0)), (2, .ref (zt_ad G 94)), (3, .ref (zt_ad G 122)), (4, .int u4)]) hx hb dL_law_954 hl (by decide) rfl (fun ls hl => ?_)
    refine lv_aload_n hx hb dL_law_956 rfl (lv_at hl 3 rfl) ?_
    refine lv_aload_n hx hb dL_law_957 rfl (lv_at hl 1 rfl) ?_
    refine lv_iload hx hb dL_law_958 (lv_at hl 5 rfl) ?_
    refine lv_iconst (v := 1) hx hb dL_law_960 (by decide) ?_
    refine lv_iadd hx hb dL_law_961 ?_
    obtain ⟨g278, hf⟩ := zt_gd_some hf
    refine va_sld hx hb hXs hbl hbA hS (zt_gI_in g278) dL_law_962 ?_
    refine lv_aload_n hx hb dL_law_963 rfl (lv_at hl 1 rfl) ?_
    refine lv_iload hx hb dL_law_964 (lv_at hl 5 rfl) ?_
    refine lv_iconst (v := 2) hx hb dL_law_966 (by decide) ?_
    refine lv_iadd hx hb dL_law_967 ?_
    obtain ⟨g279, hf⟩ := zt_gd_some hf
    refine va_sld hx hb hXs hbl hbA hS (zt_gI_in g279) dL_law_968 ?_
    refine lv_aload_n hx hb dL_law_969 rfl (lv_at hl 1 rfl) ?_
    refine lv_iload hx hb dL_law_970 (lv_at hl 5 rfl) ?_
    refine lv_iconst (v := 3) hx hb dL_law_972 (by decide) ?_
    refine lv_iadd hx hb dL_law_973 ?_
    obtain ⟨g280, hf⟩ := zt_gd_some hf
    refine va_sld hx hb hXs hbl hbA hS (zt_gI_in g280) dL_law_974 ?_
    refine lv_if_eq (tgt := 982) hx hb dL_law_975 (by decide) (fun c281 => ?_) (fun c281 => ?_)
    · have hf := (if_pos c281).symm.trans hf
      refine lv_iconst (v := 0) hx hb dL_law_982 (by decide) ?_
      exact B983 rc23 hrc23 σ277 0 (xs (u4 + 2).toNatClampNeg) (xs (u4 + 1).toNatClampNeg) u4 v276 _ _ _ j (cN + 2) (sN + 12) hf hj5 (by omega) (by omega) hj4 hP hS (lv_sub hl [1, 2, 3, 4, 5, 0] rfl)
    · have hf := (if_neg c281).symm.trans hf
      refine lv_iconst (v := 1) hx hb dL_law_978 (by decide) ?_
      refine lv_goto (tgt := 983) hx hb dL_law_979 (by decide) ?_
      exact B983 rc23 hrc23 σ277 1 (xs (u4 + 2).toNatClampNeg) (xs (u4 + 1).toNatClampNeg) u4 v276 _ _ _ j (cN + 2) (sN + 12) hf hj5 (by omega) (by omega) hj4 hP hS (lv_sub hl [1, 2, 3, 4, 5, 0] rfl)
  have B1084 : ∀ (rc23 : zt_St → Int32 → Option Int32) (hrc23 : ∀ (σ : zt_St) (u4 : Int32) (H : Heap) (locs : List Loc) (ls : Array Slot) (j cN sN : Nat), rc23 σ u4 = some 1 → 5 * j ≤ L → cN ≤ 2000 + 3 * j → sN ≤ 20000 + 18 * j → u4 = nI (5 * j) → va_P (zt_D G) vwCl (zt_ww G σ) H → va_S (fun q : Nat => s.heap.size ≤ q) s.heap H locs → lv_has ls 7 [(0, .ref b), (1, .ref (zt_ad G 0)), (2, .ref (zt_ad G 94)), (3, .ref (zt_ad G 122)), (4, .int u4)] → W p l e room_1 s m #[Value.ref b] below meth c H locs cN sN (lw_Z below #[Value.ref b] s) (F0 m 23 ls [])), ∀ (σ : zt_St) (u4 : Int32) (H : Heap) (locs : List Loc) (ls : Array Slot) (j cN sN : Nat), f_L_law_1084 xs L rc23 σ u4 = some 1 → 5 * j + 5 ≤ L → cN ≤ 2003 + 3 * j → sN ≤ 20018 + 18 * j → u4 = nI (5 * j) → va_P (zt_D G) vwCl (zt_ww G σ) H → va_S (fun q : Nat => s.heap.size ≤ q) s.heap H locs → lv_has ls 7 [(0, .ref b), (1, .ref (zt_ad G 0)), (2, .ref (zt_ad G 94)), (3, .ref (zt_ad G 122)), (4, .int u4)] → W p l e room_1 s m #[Value.ref b] below meth c H locs cN sN (lw_Z below #[Value.ref b] s) (F0 m 1084 ls []) := by
    intro rc23 hrc23 σ u4 H locs ls j cN sN hf hj5 hc hs hj4 hP hS hl
    unfold f_L_law_1084 at hf
    refine lv_goto (tgt := 1488) hx hb dL_law_1084 (by decide) ?_
    exact B1488 rc23 hrc23 σ u4 _ _ _ j cN sN hf hj5 (by omega) (by omega) hj4 hP hS (lv_sub hl [0, 1, 2, 3, 4] rfl)
  have B1152 : ∀ (rc23 : zt_St → Int32 → Option Int32) (hrc23 : ∀ (σ : zt_St) (u4 : Int32) (H : Heap) (locs : List Loc) (ls : Array Slot) (j cN sN : Nat), rc23 σ u4 = some 1 → 5 * j ≤ L → cN ≤ 2000 + 3 * j → sN ≤ 20000 + 18 * j → u4 = nI (5 * j) → va_P (zt_D G) vwCl (zt_ww G σ) H → va_S (fun q : Nat => s.heap.size ≤ q) s.heap H locs → lv_has ls 7 [(0, .ref b), (1, .ref (zt_ad G 0)), (2, .ref (zt_ad G 94)), (3, .ref (zt_ad G 122)), (4, .int u4)] → W p l e room_1 s m #[Value.ref b] below meth c H locs cN sN (lw_Z below #[Value.ref b] s) (F0 m 23 ls [])), ∀ (σ : zt_St) (u4 : Int32) (H : Heap) (locs : List Loc) (ls : Array Slot) (j cN sN : Nat), f_L_law_1152 xs L rc23 σ u4 = some 1 → 5 * j + 5 ≤ L → cN ≤ 2003 + 3 * j → sN ≤ 20018 + 18 * j → u4 = nI (5 * j) → va_P (zt_D G) vwCl (zt_ww G σ) H → va_S (fun q : Nat => s.heap.size ≤ q) s.heap H locs → lv_has ls 7 [(0, .ref b), (1, .ref (zt_ad G 0)), (2, .ref (zt_ad G 94)), (3, .ref (zt_ad G 122)), (4, .int u4)] → W p l e room_1 s m #[Value.ref b] below meth c H locs cN sN (lw_Z below #[Value.ref b] s) (F0 m 1152 ls []) := by
    intro rc23 hrc23 σ u4 H locs ls j cN sN hf hj5 hc hs hj4 hP hS hl
    unfold f_L_law_1152 at hf
    refine lv_goto (tgt := 1488) hx hb dL_law_1152 (by decide) ?_
    exact B1488 rc23 hrc23 σ u4 _ _ _ j cN sN hf hj5 (by omega) (by omega) hj4 hP hS (lv_sub hl [0, 1, 2, 3, 4] rfl)
  have B1221 : ∀ (rc23 : zt_St → Int32 → Option Int32) (hrc23 : ∀ (σ : zt_St) (u4 : Int32) (H : Heap) (locs : List Loc) (ls : Array Slot) (j cN sN : Nat), rc23 σ u4 = some 1 → 5 * j ≤ L → cN ≤ 2000 + 3 * j → sN ≤ 20000 + 18 * j → u4 = nI (5 * j) → va_P (zt_D G) vwCl (zt_ww G σ) H → va_S (fun q : Nat => s.heap.size ≤ q) s.heap H locs → lv_has ls 7 [(0, .ref b), (1, .ref (zt_ad G 0)), (2, .ref (zt_ad G 94)), (3, .ref (zt_ad G 122)), (4, .int u4)] → W p l e room_1 s m #[Value.ref b] below meth c H locs cN sN (lw_Z below #[Value.ref b] s) (F0 m 23 ls [])), ∀ (σ : zt_St) (u4 : Int32) (H : Heap) (locs : List Loc) (ls : Array Slot) (j cN sN : Nat), f_L_law_1221 xs L rc23 σ u4 = some 1 → 5 * j + 5 ≤ L → cN ≤ 2003 + 3 * j → sN ≤ 20018 + 18 * j → u4 = nI (5 * j) → va_P (zt_D G) vwCl (zt_ww G σ) H → va_S (fun q : Nat => s.heap.size ≤ q) s.heap H locs → lv_has ls 7 [(0, .ref b), (1, .ref (zt_ad G 0)), (2, .ref (zt_ad G 94)), (3, .ref (zt_ad G 122)), (4, .int u4)] → W p l e room_1 s m #[Value.ref b] below meth c H locs cN sN (lw_Z below #[Value.ref b] s) (F0 m 1221 ls []) := by
    intro rc23 hrc23 σ u4 H locs ls j cN sN hf hj5 hc hs hj4 hP hS hl
    unfold f_L_law_1221 at hf
    refine lv_goto (tgt := 1488) hx hb dL_law_1221 (by decide) ?_
    exact B1488 rc23 hrc23 σ u4 _ _ _ j cN sN hf hj5 (by omega) (by omega) hj4 hP hS (lv_sub hl [0, 1, 2, 3, 4] rfl)
  have B1301 : ∀ (rc23 : zt_St → Int32 → Option Int32) (hrc23 : ∀ (σ : zt_St) (u4 : Int32) (H : Heap) (locs : List Loc) (ls : Array Slot) (j cN sN : Nat), rc23 σ u4 = some 1 → 5 * j ≤ L → cN ≤ 2000 + 3 * j → sN ≤ 20000 + 18 * j → u4 = nI (5 * j) → va_P (zt_D G) vwCl (zt_ww G σ) H → va_S (fun q : Nat => s.heap.size ≤ q) s.heap H locs → lv_has ls 7 [(0, .ref b), (1, .ref (zt_ad G 0)), (2, .ref (zt_ad G 94)), (3, .ref (zt_ad G 122)), (4, .int u4)] → W p l e room_1 s m #[Value.ref b] below meth c H locs cN sN (lw_Z below #[Value.ref b] s) (F0 m 23 ls [])), ∀ (σ : zt_St) (u4 : Int32) (H : Heap) (locs : List Loc) (ls : Array Slot) (j cN sN : Nat), f_L_law_1301 xs L rc23 σ u4 = some 1 → 5 * j + 5 ≤ L → cN ≤ 2003 + 3 * j → sN ≤ 20018 + 18 * j → u4 = nI (5 * j) → va_P (zt_D G) vwCl (zt_ww G σ) H → va_S (fun q : Nat => s.heap.size ≤ q) s.heap H locs → lv_has ls 7 [(0, .ref b), (1, .ref (zt_ad G 0)), (2, .ref (zt_ad G 94)), (3, .ref (zt_ad G 122)), (4, .int u4)] → W p l e room_1 s m #[Value.ref b] below meth c H locs cN sN (lw_Z below #[Value.ref b] s) (F0 m 1301 ls []) := by
    intro rc23 hrc23 σ u4 H locs ls j cN sN hf hj5 hc hs hj4 hP hS hl
    unfold f_L_law_1301 at hf
    refine lv_goto (tgt := 1488) hx hb dL_law_1301 (by decide) ?_
    exact B1488 rc23 hrc23 σ u4 _ _ _ j cN sN hf hj5 (by omega) (by omega) hj4 hP hS (lv_sub hl [0, 1, 2, 3, 4] rfl)
  have B1417 : ∀ (rc23 : zt_St → Int32 → Option Int32) (hrc23 : ∀ (σ : zt_St) (u4 : Int32) (H : Heap) (locs : List Loc) (ls : Array Slot) (j cN sN : Nat), rc23 σ u4 = some 1 → 5 * j ≤ L → cN ≤ 2000 + 3 * j → sN ≤ 20000 + 18 * j → u4 = nI (5 * j) → va_P (zt_D G) vwCl (zt_ww G σ) H → va_S (fun q : Nat => s.heap.size ≤ q) s.heap H locs → lv_has ls 7 [(0, .ref b), (1, .ref (zt_ad G 0)), (2, .ref (zt_ad G 94)), (3, .ref (zt_ad G 122)), (4, .int u4)] → W p l e room_1 s m #[Value.ref b] below meth c H locs cN sN (lw_Z below #[Value.ref b] s) (F0 m 23 ls [])), ∀ (σ : zt_St) (u4 : Int32) (H : Heap) (locs : List Loc) (ls : Array Slot) (j cN sN : Nat), f_L_law_1417 xs L rc23 σ u4 = some 1 → 5 * j + 5 ≤ L → cN ≤ 2003 + 3 * j → sN ≤ 20018 + 18 * j → u4 = nI (5 * j) → va_P (zt_D G) vwCl (zt_ww G σ) H → va_S (fun q : Nat => s.heap.size ≤ q) s.heap H locs → lv_has ls 7 [(0, .ref b), (1, .ref (zt_ad G 0)), (2, .ref (zt_ad G 94)), (3, .ref (zt_ad G 122)), (4, .int u4)] → W p l e room_1 s m #[Value.ref b] below meth c H locs cN sN (lw_Z below #[Value.ref b] s) (F0 m 1417 ls []) := by
    intro rc23 hrc23 σ u4 H locs ls j cN sN hf hj5 hc hs hj4 hP hS hl
    unfold f_L_law_1417 at hf
    refine lv_goto (tgt := 1488) hx hb dL_law_1417 (by decide) ?_
    exact B1488 rc23 hrc23 σ u4 _ _ _ j cN sN hf hj5 (by omega) (by omega) hj4 hP hS (lv_sub hl [0, 1, 2, 3, 4] rfl)
  have B1485 : ∀ (rc23 : zt_St → Int32 → Option Int32) (hrc23 : ∀ (σ : zt_St) (u4 : Int32) (H : Heap) (locs : List Loc) (ls : Array Slot) (j cN sN : Nat), rc23 σ u4 = some 1 → 5 * j ≤ L → cN ≤ 2000 + 3 * j → sN ≤ 20000 + 18 * j → u4 = nI (5 * j) → va_P (zt_D G) vwCl (zt_ww G σ) H → va_S (fun q : Nat => s.heap.size ≤ q) s.heap H locs → lv_has ls 7 [(0, .ref b), (1, .ref (zt_ad G 0)), (2, .ref (zt_ad G 94)), (3, .ref (zt_ad G 122)), (4, .int u4)] → W p l e room_1 s m #[Value.ref b] below meth c H locs cN sN (lw_Z below #[Value.ref b] s) (F0 m 23 ls [])), ∀ (σ : zt_St) (u4 : Int32) (H : Heap) (locs : List Loc) (ls : Array Slot) (j cN sN : Nat), f_L_law_1485 xs L rc23 σ u4 = some 1 → 5 * j + 5 ≤ L → cN ≤ 2003 + 3 * j → sN ≤ 20018 + 18 * j → u4 = nI (5 * j) → va_P (zt_D G) vwCl (zt_ww G σ) H → va_S (fun q : Nat => s.heap.size ≤ q) s.heap H locs → lv_has ls 7 [(0, .ref b), (1, .ref (zt_ad G 0)), (2, .ref (zt_ad G 94)), (3, .ref (zt_ad G 122)), (4, .int u4)] → W p l e room_1 s m #[Value.ref b] below meth c H locs cN sN (lw_Z below #[Value.ref b] s) (F0 m 1485 ls []) := by
    intro rc23 hrc23 σ u4 H locs ls j cN sN hf hj5 hc hs hj4 hP hS hl
    unfold f_L_law_1485 at hf
    refine lv_goto (tgt := 1488) hx hb dL_law_1485 (by decide) ?_
    exact B1488 rc23 hrc23 σ u4 _ _ _ j cN sN hf hj5 (by omega) (by omega) hj4 hP hS (lv_sub hl [0, 1, 2, 3, 4] rfl)
  intro n
  induction n with
  | zero => intro σ u4 H locs ls j cN sN hf; exact nomatch hf
  | succ n hrc23 =>
    intro σ u4 H locs ls j cN sN hf hj hc hs hj4 hP hS hl
    generalize hrcg : f_L_law_23 xs L n = rc23 at hrc23
    have hf : f_L_law_23b xs L rc23 σ u4 = some 1 := by rw [← hrcg]; exact hf
    unfold f_L_law_23b at hf
    refine lv_iload hx hb dL_law_23 (lv_at hl 4 rfl) ?_
    refine lv_aload_n hx hb dL_law_25 rfl (lv_at hl 0 rfl) ?_
    refine va_slen hx hb hXs hbl hbA hS dL_law_26 ?_
    refine lv_iconst (v := 5) hx hb dL_law_27 (by decide) ?_
    refine lv_isub hx hb dL_law_28 ?_
    refine lv_icmp_gt (tgt := 1494) hx hb dL_law_29 (by decide) (fun c1 => ?_) (fun c1 => ?_)
    · have hf := (if_pos c1).symm.trans hf
      refine lv_iconst (v := 1) hx hb dL_law_1494 (by decide) ?_
      refine va_forget (fun q hq => hS.2.2 q hq) ?_
      refine W.widen (k := 601024) (n := 7293034) (by omega) (by omega) ?_
      exact lw_ret hx hb hr hlocks dL_law_1495
    · have hf := (if_neg c1).symm.trans hf
      have hj5 : 5 * j + 5 ≤ L := zt_lwk hL hj (by rw [← hj4]; exact c1)
      refine lv_aload_n hx hb dL_law_32 rfl (lv_at hl 0 rfl) ?_
      refine lv_iload hx hb dL_law_33 (lv_at hl 4 rfl) ?_
      obtain ⟨g2, hf⟩ := zt_gd_some hf
      refine va_sld hx hb hXs hbl hbA hS (zt_gI_in g2) dL_law_35 ?_
      refine lv_bipush (v := 31) hx hb dL_law_36 (by decide +kernel) ?_
      refine lv_iand hx hb dL_law_38 ?_
      by_cases c3 : ((xs u4.toNatClampNeg) &&& 31) = 0
      · have hf := (if_pos c3).symm.trans hf
        refine lv_tableIn (off := 93) (tgt := 132) hx hb dL_law_39 (by rw [c3]; decide) (by rw [c3]; decide) (by rw [c3]; rfl) (by decide) ?_
        refine lv_aload_n hx hb dL_law_132 rfl (lv_at hl 1 rfl) ?_
        refine lv_aload_n hx hb dL_law_133 rfl (lv_at hl 0 rfl) ?_
        refine lv_iload hx hb dL_law_134 (lv_at hl 4 rfl) ?_
        refine lv_iconst (v := 1) hx hb dL_law_136 (by decide) ?_
        refine lv_iadd hx hb dL_law_137 ?_
        obtain ⟨g4, hf⟩ := zt_gd_some hf
        refine va_sld hx hb hXs hbl hbA hS (zt_gI_in g4) dL_law_138 ?_
        refine lv_aload_n hx hb dL_law_139 rfl (lv_at hl 0 rfl) ?_
        refine lv_iload hx hb dL_law_140 (lv_at hl 4 rfl) ?_
        refine lv_iconst (v := 2) hx hb dL_law_142 (by decide) ?_
        refine lv_iadd hx hb dL_law_143 ?_
        obtain ⟨g5, hf⟩ := zt_gd_some hf
        refine va_sld hx hb hXs hbl hbA hS (zt_gI_in g5) dL_law_144 ?_
        refine lv_aload_n hx hb dL_law_145 rfl (lv_at hl 3 rfl) ?_
        obtain ⟨⟨v6a, σ7a⟩, hvv6, hf⟩ := zt_bd_some hf
        obtain ⟨v6, hv6, hf⟩ := zt_lt_some hf; obtain ⟨σ7, hσ7, hf⟩ := zt_lt_some hf; rw [show (v6a, σ7a) = (v6, σ7) from by rw [hv6, hσ7]] at hvv6
        have hS2 : va_S (zt_A2 G s.heap.size) s.heap H locs := ⟨hS.1, fun q h1 h2 => hS.2.1 q h1 (fun z => h2 (Or.inr z)), fun q h => Or.inr (hS.2.2 q h)⟩
        refine vx_calli (vx_runSX (As := [.ref (zt_ad G 0), .int (xs (u4 + 1).toNatClampNeg), .int (xs (u4 + 2).toNatClampNeg), .ref (zt_ad G 122)]) (rest := []) ⟨hx, hb, hml, hown, hts⟩ (m_L_zone l hl2 G (σ := σ) hvv6) (vx_cwSW 4 hts gL_law_L_zone rfl rfl rfl zh_L_zone ⟨Nat.le_of_ble_eq_true rfl, Nat.le_of_ble_eq_true rfl⟩) ⟨zt_blind2, fun U hU hW => ⟨rfl, zt_go2 hE hX hP hS2 hU hW⟩⟩ rfl rfl hl.1 rfl (lv_room (Nat.le_of_ble_eq_true rfl)) dL_law_146 ⟨(show cN + 1 ≤ 601024 by omega), (show sN + 6 ≤ 7293034 by omega)⟩) hS (fun q h1 h2 => h2.elim (fun z => hGA q z) (fun z => absurd h1 (Nat.not_lt.mpr z))) (fun q h => h.elim (fun z => hGA q z) (fun z => Nat.le_trans hS.1 z)) (fun q h1 h2 => h2.elim (fun z => hGA q z) (fun z => absurd h1 (Nat.not_lt.mpr z))) (fun E ce q9 u t H locs ht hvm hw hB _ _ hS hce hcv hcl => hw.elim) (fun r u t H locs ht hvm hw hB _ _ hS => ?_)
        rw [hw.1]; have hB : zt_B G u t := hB; rw [hw.2] at hB; have hP := zt_B.P hB ht
        refine W.cs (cells' := cN + 1) (slots' := sN + 6) rfl rfl ?_
        refine lv_istore (lv' := [(5, .int v6), (0, .ref b), (1, .ref (zt_ad G 0)), (2, .ref (zt_ad G 94)), (3, .ref (zt_ad G 122)), (4, .int u4)]) hx hb dL_law_149 hl (by decide) rfl (fun ls hl => ?_)
        refine lv_aload_n hx hb dL_law_151 rfl (lv_at hl 3 rfl) ?_
        refine lv_aload_n hx hb dL_law_152 rfl (lv_at hl 1 rfl) ?_
        refine lv_iload hx hb dL_law_153 (lv_at hl 5 rfl) ?_
        refine lv_iconst (v := 1) hx hb dL_law_155 (by decide) ?_
        refine lv_iadd hx hb dL_law_156 ?_
        obtain ⟨g8, hf⟩ := zt_gd_some hf
        refine va_sld hx hb hXs hbl hbA hS (zt_gI_in g8) dL_law_157 ?_
        refine lv_aload_n hx hb dL_law_158 rfl (lv_at hl 1 rfl) ?_
        refine lv_iload hx hb dL_law_159 (lv_at hl 5 rfl) ?_
        refine lv_iconst (v := 2) hx hb dL_law_161 (by decide) ?_
        refine lv_iadd hx hb dL_law_162 ?_
        obtain ⟨g9, hf⟩ := zt_gd_some hf
        refine va_sld hx hb hXs hbl hbA hS (zt_gI_in g9) dL_law_163 ?_
        obtain ⟨⟨v10a, σ11a⟩, hvv10, hf⟩ := zt_bd_some hf
        obtain ⟨v10, hv10, hf⟩ := zt_lt_some hf; obtain ⟨σ11, hσ11, hf⟩ := zt_lt_some hf; rw [show (v10a, σ11a) = (v10, σ11) from by rw [hv10, hσ11]] at hvv10
        refine va_calli (va_runV (As := [.int (xs (u4 + 1).toNatClampNeg), .int (xs (u4 + 2).toNatClampNeg)]) (rest := []) ⟨hx, hb, hml, hown, hts⟩ (m_X9_zone l G (σ := σ7) hvv10) (cwV 2 hts gL_law_X9_zone rfl rfl rfl zh_X9_zone ⟨Nat.le_of_ble_eq_true rfl, Nat.le_of_ble_eq_true rfl⟩) ⟨zt_blind, va_recv hK hP (ci := 8) (q0 := 94) rfl (zt_a8 (rfl : zt_kd 94 = 8)), fun U hU hW => ⟨rfl, zt_go hE hP hS hvac hU hW⟩⟩ rfl rfl hl.1 rfl (lv_room (Nat.le_of_ble_eq_true rfl)) dL_law_164 ⟨(show (cN + 1) + 0 ≤ 601024 by omega), (show (sN + 6) + 0 ≤ 7293034 by omega)⟩) hS (fun q _ h => hGA q h) (fun q h => hGA q h) (fun r u t H locs ht hvm hw hB _ _ hS => ?_)
        rw [hw.1]; have hB : zt_B G u t := hB; rw [hw.2] at hB; have hP := zt_B.P hB ht
        refine W.cs (cells' := cN + 1) (slots' := sN + 6) rfl rfl ?_
        refine lv_istore (lv' := [(6, .int v10), (5, .int v6), (0, .ref b), (1, .ref (zt_ad G 0)), (2, .ref (zt_ad G 94)), (3, .ref (zt_ad G 122)), (4, .int u4)]) hx hb dL_law_167 hl (by decide) rfl (fun ls hl => ?_)
        refine lv_aload_n hx hb dL_law_169 rfl (lv_at hl 4 rfl) ?_
        obtain ⟨v13, hvv13, hf⟩ := zt_bd_some hf
        refine va_calli (va_runV (As := []) (rest := []) ⟨hx, hb, hml, hown, hts⟩ (m_X9_thrown l G (σ := σ11) hvv13) (cwV 0 hts gL_law_X9_thrown rfl rfl rfl zh_X9_thrown ⟨Nat.le_of_ble_eq_true rfl, Nat.le_of_ble_eq_true rfl⟩) ⟨zt_blind, va_recv hK hP (ci := 8) (q0 := 94) rfl (zt_a8 (rfl : zt_kd 94 = 8)), fun U hU hW => ⟨rfl, zt_go hE hP hS hvac hU hW⟩⟩ rfl rfl hl.1 rfl (lv_room (Nat.le_of_ble_eq_true rfl)) dL_law_170 ⟨(show (cN + 1) + 0 ≤ 601024 by omega), (show (sN + 6) + 0 ≤ 7293034 by omega)⟩) hS (fun q _ h => hGA q h) (fun q h => hGA q h) (fun r u t H locs ht hvm hw hB _ _ hS => ?_)
        rw [hw.1]; have hB : zt_B G u t := hB; rw [hw.2] at hB; have hP := zt_B.P hB ht
        refine W.cs (cells' := cN + 1) (slots' := sN + 6) rfl rfl ?_
        refine lv_iload hx hb dL_law_173 (lv_at hl 1 rfl) ?_
        refine lv_icmp_eq (tgt := 180) hx hb dL_law_175 (by decide) (fun c15 => ?_) (fun c15 => ?_)
        · have hf := (if_pos c15).symm.trans hf
          refine lv_iload hx hb dL_law_180 (lv_at hl 1 rfl) ?_
          refine lv_if_ne (tgt := 197) hx hb dL_law_182 (by decide) (fun c16 => ?_) (fun c16 => ?_)
          · have hf := (if_neg c16).symm.trans hf
            exact B197 rc23 hrc23 σ11 u4 _ _ _ j (cN + 1) (sN + 6) hf hj5 (by omega) (by omega) hj4 hP hS (lv_sub hl [2, 3, 4, 5, 6] rfl)
          · have hf := (if_pos c16).symm.trans hf
            refine lv_aload_n hx hb dL_law_185 rfl (lv_at hl 5 rfl) ?_
            refine lv_iconst (v := 0) hx hb dL_law_186 (by decide) ?_
            refine va_lald hx hb hK hP 122 3 (zt_a12 (k := 122) rfl) rfl (zt_gI_in (show zt_gI 0 1 = true by decide +kernel)) dL_law_187 ?_
            rw [show ((0 : Int32).toNatClampNeg) = 0 from by decide]
            refine lv_iload hx hb dL_law_188 (lv_at hl 0 rfl) ?_
            refine lv_i2l (v := (v10 : Int32).toInt64) hx hb dL_law_190 rfl ?_
            refine W.lcmp hx hb dL_law_191 ?_
            refine lv_if_eq (tgt := 197) hx hb dL_law_192 (by decide) (fun c17 => ?_) (fun c17 => ?_)
            · have hf := (if_pos c17).symm.trans hf
              exact B197 rc23 hrc23 σ11 u4 _ _ _ j (cN + 1) (sN + 6) hf hj5 (by omega) (by omega) hj4 hP hS (lv_sub hl [2, 3, 4, 5, 6] rfl)
            · have hf := (if_neg c17).symm.trans hf
              refine lv_iconst (v := 0) hx hb dL_law_195 (by decide) ?_
              exact absurd (Option.some.inj hf) (by decide)
        · have hf := (if_neg c15).symm.trans hf
          refine lv_iconst (v := 0) hx hb dL_law_178 (by decide) ?_
          exact absurd (Option.some.inj hf) (by decide)
      · have hf := (if_neg c3).symm.trans hf
        by_cases c18 : ((xs u4.toNatClampNeg) &&& 31) = 1
        · have hf := (if_pos c18).symm.trans hf
          refine lv_tableIn (off := 161) (tgt := 200) hx hb dL_law_39 (by rw [c18]; decide) (by rw [c18]; decide) (by rw [c18]; rfl) (by decide) ?_
          refine lv_aload_n hx hb dL_law_200 rfl (lv_at hl 1 rfl) ?_
          refine lv_aload_n hx hb dL_law_201 rfl (lv_at hl 0 rfl) ?_
          refine lv_iload hx hb dL_law_202 (lv_at hl 4 rfl) ?_
          refine lv_iconst (v := 1) hx hb dL_law_204 (by decide) ?_
          refine lv_iadd hx hb dL_law_205 ?_
          obtain ⟨g19, hf⟩ := zt_gd_some hf
          refine va_sld hx hb hXs hbl hbA hS (zt_gI_in g19) dL_law_206 ?_
          refine lv_aload_n hx hb dL_law_207 rfl (lv_at hl 0 rfl) ?_
          refine lv_iload hx hb dL_law_208 (lv_at hl 4 rfl) ?_
          refine lv_iconst (v := 2) hx hb dL_law_210 (by decide) ?_
          refine lv_iadd hx hb dL_law_211 ?_
          obtain ⟨g20, hf⟩ := zt_gd_some hf
          refine va_sld hx hb hXs hbl hbA hS (zt_gI_in g20) dL_law_212 ?_
          refine lv_aload_n hx hb dL_law_213 rfl (lv_at hl 0 rfl) ?_
          refine lv_iload hx hb dL_law_214 (lv_at hl 4 rfl) ?_
          refine lv_iconst (v := 3) hx hb dL_law_216 (by decide) ?_
          refine lv_iadd hx hb dL_law_217 ?_
          obtain ⟨g21, hf⟩ := zt_gd_some hf
          refine va_sld hx hb hXs hbl hbA hS (zt_gI_in g21) dL_law_218 ?_
          refine lv_if_eq (tgt := 226) hx hb dL_law_219 (by decide) (fun c22 => ?_) (fun c22 => ?_)
          · have hf := (if_pos c22).symm.trans hf
            refine lv_iconst (v := 0) hx hb dL_law_226 (by decide) ?_
            exact B227 rc23 hrc23 σ 0 (xs (u4 + 2).toNatClampNeg) (xs (u4 + 1).toNatClampNeg) u4 _ _ _ j cN sN hf hj5 (by omega) (by omega) hj4 hP hS (lv_sub hl [0, 1, 2, 3, 4] rfl)
          · have hf := (if_neg c22).symm.trans hf
            refine lv_iconst (v := 1) hx hb dL_law_222 (by decide) ?_
            refine lv_goto (tgt := 227) hx hb dL_law_223 (by decide) ?_
            exact B227 rc23 hrc23 σ 1 (xs (u4 + 2).toNatClampNeg) (xs (u4 + 1).toNatClampNeg) u4 _ _ _ j cN sN hf hj5 (by omega) (by omega) hj4 hP hS (lv_sub hl [0, 1, 2, 3, 4] rfl)
        · have hf := (if_neg c18).symm.trans hf
          by_cases c23 : ((xs u4.toNatClampNeg) &&& 31) = 2
          · have hf := (if_pos c23).symm.trans hf
            refine lv_tableIn (off := 257) (tgt := 296) hx hb dL_law_39 (by rw [c23]; decide) (by rw [c23]; decide) (by rw [c23]; rfl) (by decide) ?_
            refine lv_aload_n hx hb dL_law_296 rfl (lv_at hl 1 rfl) ?_
            refine lv_aload_n hx hb dL_law_297 rfl (lv_at hl 0 rfl) ?_
            refine lv_iload hx hb dL_law_298 (lv_at hl 4 rfl) ?_
            refine lv_iconst (v := 1) hx hb dL_law_300 (by decide) ?_
            refine lv_iadd hx hb dL_law_301 ?_
            obtain ⟨g24, hf⟩ := zt_gd_some hf
            refine va_sld hx hb hXs hbl hbA hS (zt_gI_in g24) dL_law_302 ?_
            refine lv_aload_n hx hb dL_law_303 rfl (lv_at hl 0 rfl) ?_
            refine lv_iload hx hb dL_law_304 (lv_at hl 4 rfl) ?_
            refine lv_iconst (v := 2) hx hb dL_law_306 (by decide) ?_
            refine lv_iadd hx hb dL_law_307 ?_
            obtain ⟨g25, hf⟩ := zt_gd_some hf
            refine va_sld hx hb hXs hbl hbA hS (zt_gI_in g25) dL_law_308 ?_
            refine lv_aload_n hx hb dL_law_309 rfl (lv_at hl 0 rfl) ?_
            refine lv_iload hx hb dL_law_310 (lv_at hl 4 rfl) ?_
            refine lv_iconst (v := 3) hx hb dL_law_312 (by decide) ?_
            refine lv_iadd hx hb dL_law_313 ?_
            obtain ⟨g26, hf⟩ := zt_gd_some hf
            refine va_sld hx hb hXs hbl hbA hS (zt_gI_in g26) dL_law_314 ?_
            refine lv_aload_n hx hb dL_law_315 rfl (lv_at hl 0 rfl) ?_
            refine lv_iload hx hb dL_law_316 (lv_at hl 4 rfl) ?_
            refine lv_iconst (v := 4) hx hb dL_law_318 (by decide) ?_
            refine lv_iadd hx hb dL_law_319 ?_
            obtain ⟨g27, hf⟩ := zt_gd_some hf
            refine va_sld hx hb hXs hbl hbA hS (zt_gI_in g27) dL_law_320 ?_
            refine lv_aload_n hx hb dL_law_321 rfl (lv_at hl 3 rfl) ?_
            obtain ⟨⟨v28a, σ29a⟩, hvv28, hf⟩ := zt_bd_some hf
            obtain ⟨v28, hv28, hf⟩ := zt_lt_some hf; obtain ⟨σ29, hσ29, hf⟩ := zt_lt_some hf; rw [show (v28a, σ29a) = (v28, σ29) from by rw [hv28, hσ29]] at hvv28
            have hS2 : va_S (zt_A2 G s.heap.size) s.heap H locs := ⟨hS.1, fun q h1 h2 => hS.2.1 q h1 (fun z => h2 (Or.inr z)), fun q h => Or.inr (hS.2.2 q h)⟩
            refine vx_calli (vx_runSX (As := [.ref (zt_ad G 0), .int (xs (u4 + 1).toNatClampNeg), .int (xs (u4 + 2).toNatClampNeg), .int (xs (u4 + 3).toNatClampNeg), .int (xs (u4 + 4).toNatClampNeg), .ref (zt_ad G 122)]) (rest := []) ⟨hx, hb, hml, hown, hts⟩ (m_L_put l hl2 G (σ := σ) hvv28) (vx_cwSW 6 hts gL_law_L_put rfl rfl rfl zh_L_put ⟨Nat.le_of_ble_eq_true rfl, Nat.le_of_ble_eq_true rfl⟩) ⟨zt_blind2, fun U hU hW => ⟨rfl, zt_go2 hE hX hP hS2 hU hW⟩⟩ rfl rfl hl.1 rfl (lv_room (Nat.le_of_ble_eq_true rfl)) dL_law_322 ⟨(show cN + 3 ≤ 601024 by omega), (show sN + 18 ≤ 7293034 by omega)⟩) hS (fun q h1 h2 => h2.elim (fun z => hGA q z) (fun z => absurd h1 (Nat.not_lt.mpr z))) (fun q h => h.elim (fun z => hGA q z) (fun z => Nat.le_trans hS.1 z)) (fun q h1 h2 => h2.elim (fun z => hGA q z) (fun z => absurd h1 (Nat.not_lt.mpr z))) (fun E ce q9 u t H locs ht hvm hw hB _ _ hS hce hcv hcl => hw.elim) (fun r u t H locs ht hvm hw hB _ _ hS => ?_)
            rw [hw.1]; have hB : zt_B G u t := hB; rw [hw.2] at hB; have hP := zt_B.P hB ht
            refine W.cs (cells' := cN + 3) (slots' := sN + 18) rfl rfl ?_
            refine lv_istore (lv' := [(5, .int v28), (0, .ref b), (1, .ref (zt_ad G 0)), (2, .ref (zt_ad G 94)), (3, .ref (zt_ad G 122)), (4, .int u4)]) hx hb dL_law_325 hl (by decide) rfl (fun ls hl => ?_)
            refine lv_aload_n hx hb dL_law_327 rfl (lv_at hl 3 rfl) ?_
            refine lv_aload_n hx hb dL_law_328 rfl (lv_at hl 1 rfl) ?_
            refine lv_iload hx hb dL_law_329 (lv_at hl 5 rfl) ?_
            refine lv_iconst (v := 1) hx hb dL_law_331 (by decide) ?_
            refine lv_iadd hx hb dL_law_332 ?_
            obtain ⟨g30, hf⟩ := zt_gd_some hf
            refine va_sld hx hb hXs hbl hbA hS (zt_gI_in g30) dL_law_333 ?_
            refine lv_aload_n hx hb dL_law_334 rfl (lv_at hl 1 rfl) ?_
            refine lv_iload hx hb dL_law_335 (lv_at hl 5 rfl) ?_
            refine lv_iconst (v := 2) hx hb dL_law_337 (by decide) ?_
            refine lv_iadd hx hb dL_law_338 ?_
            obtain ⟨g31, hf⟩ := zt_gd_some hf
            refine va_sld hx hb hXs hbl hbA hS (zt_gI_in g31) dL_law_339 ?_
            refine lv_aload_n hx hb dL_law_340 rfl (lv_at hl 1 rfl) ?_
            refine lv_iload hx hb dL_law_341 (lv_at hl 5 rfl) ?_
            refine lv_iconst (v := 3) hx hb dL_law_343 (by decide) ?_
            refine lv_iadd hx hb dL_law_344 ?_
            obtain ⟨g32, hf⟩ := zt_gd_some hf
            refine va_sld hx hb hXs hbl hbA hS (zt_gI_in g32) dL_law_345 ?_
            refine lv_aload_n hx hb dL_law_346 rfl (lv_at hl 1 rfl) ?_
            refine lv_iload hx hb dL_law_347 (lv_at hl 5 rfl) ?_
            refine lv_iconst (v := 4) hx hb dL_law_349 (by decide) ?_
            refine lv_iadd hx hb dL_law_350 ?_
            obtain ⟨g33, hf⟩ := zt_gd_some hf
            refine va_sld hx hb hXs hbl hbA hS (zt_gI_in g33) dL_law_351 ?_
            obtain ⟨⟨v34a, σ35a⟩, hvv34, hf⟩ := zt_bd_some hf
            obtain ⟨v34, hv34, hf⟩ := zt_lt_some hf; obtain ⟨σ35, hσ35, hf⟩ := zt_lt_some hf; rw [show (v34a, σ35a) = (v34, σ35) from by rw [hv34, hσ35]] at hvv34
            refine va_calli (va_runV (As := [.int (xs (u4 + 1).toNatClampNeg), .int (xs (u4 + 2).toNatClampNeg), .int (xs (u4 + 3).toNatClampNeg), .int (xs (u4 + 4).toNatClampNeg)]) (rest := []) ⟨hx, hb, hml, hown, hts⟩ (m_X9_put l G (σ := σ29) hvv34) (cwV 4 hts gL_law_X9_put rfl rfl rfl zh_X9_put ⟨Nat.le_of_ble_eq_true rfl, Nat.le_of_ble_eq_true rfl⟩) ⟨zt_blind, va_recv hK hP (ci := 8) (q0 := 94) rfl (zt_a8 (rfl : zt_kd 94 = 8)), fun U hU hW => ⟨rfl, zt_go hE hP hS hvac hU hW⟩⟩ rfl rfl hl.1 rfl (lv_room (Nat.le_of_ble_eq_true rfl)) dL_law_352 ⟨(show (cN + 3) + 0 ≤ 601024 by omega), (show (sN + 18) + 0 ≤ 7293034 by omega)⟩) hS (fun q _ h => hGA q h) (fun q h => hGA q h) (fun r u t H locs ht hvm hw hB _ _ hS => ?_)
            rw [hw.1]; have hB : zt_B G u t := hB; rw [hw.2] at hB; have hP := zt_B.P hB ht
            refine W.cs (cells' := cN + 3) (slots' := sN + 18) rfl rfl ?_
            refine lv_istore (lv' := [(6, .int v34), (5, .int v28), (0, .ref b), (1, .ref (zt_ad G 0)), (2, .ref (zt_ad G 94)), (3, .ref (zt_ad G 122)), (4, .int u4)]) hx hb dL_law_355 hl (by decide) rfl (fun ls hl => ?_)
            refine lv_aload_n hx hb dL_law_357 rfl (lv_at hl 4 rfl) ?_
            obtain ⟨v37, hvv37, hf⟩ := zt_bd_some hf
            refine va_calli (va_runV (As := []) (rest := []) ⟨hx, hb, hml, hown, hts⟩ (m_X9_thrown l G (σ := σ35) hvv37) (cwV 0 hts gL_law_X9_thrown rfl rfl rfl zh_X9_thrown ⟨Nat.le_of_ble_eq_true rfl, Nat.le_of_ble_eq_true rfl⟩) ⟨zt_blind, va_recv hK hP (ci := 8) (q0 := 94) rfl (zt_a8 (rfl : zt_kd 94 = 8)), fun U hU hW => ⟨rfl, zt_go hE hP hS hvac hU hW⟩⟩ rfl rfl hl.1 rfl (lv_room (Nat.le_of_ble_eq_true rfl)) dL_law_358 ⟨(show (cN + 3) + 0 ≤ 601024 by omega), (show (sN + 18) + 0 ≤ 7293034 by omega)⟩) hS (fun q _ h => hGA q h) (fun q h => hGA q h) (fun r u t H locs ht hvm hw hB _ _ hS => ?_)
            rw [hw.1]; have hB : zt_B G u t := hB; rw [hw.2] at hB; have hP := zt_B.P hB ht
            refine W.cs (cells' := cN + 3) (slots' := sN + 18) rfl rfl ?_
            refine lv_iload hx hb dL_law_361 (lv_at hl 1 rfl) ?_
            refine lv_icmp_eq (tgt := 368) hx hb dL_law_363 (by decide) (fun c39 => ?_) (fun c39 => ?_)
            · have hf := (if_pos c39).symm.trans hf
              refine lv_iload hx hb dL_law_368 (lv_at hl 1 rfl) ?_
              refine lv_if_ne (tgt := 385) hx hb dL_law_370 (by decide) (fun c40 => ?_) (fun c40 => ?_)
              · have hf := (if_neg c40).symm.trans hf
                exact B385 rc23 hrc23 σ35 u4 _ _ _ j (cN + 3) (sN + 18) hf hj5 (by omega) (by omega) hj4 hP hS (lv_sub hl [2, 3, 4, 5, 6] rfl)
              · have hf := (if_pos c40).symm.trans hf
                refine lv_aload_n hx hb dL_law_373 rfl (lv_at hl 5 rfl) ?_
                refine lv_iconst (v := 0) hx hb dL_law_374 (by decide) ?_
                refine va_lald hx hb hK hP 122 3 (zt_a12 (k := 122) rfl) rfl (zt_gI_in (show zt_gI 0 1 = true by decide +kernel)) dL_law_375 ?_
                rw [show ((0 : Int32).toNatClampNeg) = 0 from by decide]
                refine lv_iload hx hb dL_law_376 (lv_at hl 0 rfl) ?_
                refine lv_i2l (v := (v34 : Int32).toInt64) hx hb dL_law_378 rfl ?_
                refine W.lcmp hx hb dL_law_379 ?_
                refine lv_if_eq (tgt := 385) hx hb dL_law_380 (by decide) (fun c41 => ?_) (fun c41 => ?_)
                · have hf := (if_pos c41).symm.trans hf
                  exact B385 rc23 hrc23 σ35 u4 _ _ _ j (cN + 3) (sN + 18) hf hj5 (by omega) (by omega) hj4 hP hS (lv_sub hl [2, 3, 4, 5, 6] rfl)
                · have hf := (if_neg c41).symm.trans hf
                  refine lv_iconst (v := 0) hx hb dL_law_383 (by decide) ?_
                  exact absurd (Option.some.inj hf) (by decide)
            · have hf := (if_neg c39).symm.trans hf
              refine lv_iconst (v := 0) hx hb dL_law_366 (by decide) ?_
              exact absurd (Option.some.inj hf) (by decide)
          · have hf := (if_neg c23).symm.trans hf
            by_cases c42 : ((xs u4.toNatClampNeg) &&& 31) = 3
            · have hf := (if_pos c42).symm.trans hf
              refine lv_tableIn (off := 349) (tgt := 388) hx hb dL_law_39 (by rw [c42]; decide) (by rw [c42]; decide) (by rw [c42]; rfl) (by decide) ?_
              refine lv_aload_n hx hb dL_law_388 rfl (lv_at hl 1 rfl) ?_
              refine lv_aload_n hx hb dL_law_389 rfl (lv_at hl 0 rfl) ?_
              refine lv_iload hx hb dL_law_390 (lv_at hl 4 rfl) ?_
              refine lv_iconst (v := 1) hx hb dL_law_392 (by decide) ?_
              refine lv_iadd hx hb dL_law_393 ?_
              obtain ⟨g43, hf⟩ := zt_gd_some hf
              refine va_sld hx hb hXs hbl hbA hS (zt_gI_in g43) dL_law_394 ?_
              refine lv_aload_n hx hb dL_law_395 rfl (lv_at hl 0 rfl) ?_
              refine lv_iload hx hb dL_law_396 (lv_at hl 4 rfl) ?_
              refine lv_iconst (v := 2) hx hb dL_law_398 (by decide) ?_
              refine lv_iadd hx hb dL_law_399 ?_
              obtain ⟨g44, hf⟩ := zt_gd_some hf
              refine va_sld hx hb hXs hbl hbA hS (zt_gI_in g44) dL_law_400 ?_
              refine lv_aload_n hx hb dL_law_401 rfl (lv_at hl 3 rfl) ?_
              obtain ⟨⟨v45a, σ46a⟩, hvv45, hf⟩ := zt_bd_some hf
              obtain ⟨v45, hv45, hf⟩ := zt_lt_some hf; obtain ⟨σ46, hσ46, hf⟩ := zt_lt_some hf; rw [show (v45a, σ46a) = (v45, σ46) from by rw [hv45, hσ46]] at hvv45
              have hS2 : va_S (zt_A2 G s.heap.size) s.heap H locs := ⟨hS.1, fun q h1 h2 => hS.2.1 q h1 (fun z => h2 (Or.inr z)), fun q h => Or.inr (hS.2.2 q h)⟩
              refine vx_calli (vx_runSX (As := [.ref (zt_ad G 0), .int (xs (u4 + 1).toNatClampNeg), .int (xs (u4 + 2).toNatClampNeg), .ref (zt_ad G 122)]) (rest := []) ⟨hx, hb, hml, hown, hts⟩ (m_L_drop l hl2 G (σ := σ) hvv45) (vx_cwSW 4 hts gL_law_L_drop rfl rfl rfl zh_L_drop ⟨Nat.le_of_ble_eq_true rfl, Nat.le_of_ble_eq_true rfl⟩) ⟨zt_blind2, fun U hU hW => ⟨rfl, zt_go2 hE hX hP hS2 hU hW⟩⟩ rfl rfl hl.1 rfl (lv_room (Nat.le_of_ble_eq_true rfl)) dL_law_402 ⟨(show cN + 2 ≤ 601024 by omega), (show sN + 12 ≤ 7293034 by omega)⟩) hS (fun q h1 h2 => h2.elim (fun z => hGA q z) (fun z => absurd h1 (Nat.not_lt.mpr z))) (fun q h => h.elim (fun z => hGA q z) (fun z => Nat.le_trans hS.1 z)) (fun q h1 h2 => h2.elim (fun z => hGA q z) (fun z => absurd h1 (Nat.not_lt.mpr z))) (fun E ce q9 u t H locs ht hvm hw hB _ _ hS hce hcv hcl => hw.elim) (fun r u t H locs ht hvm hw hB _ _ hS => ?_)
              rw [hw.1]; have hB : zt_B G u t := hB; rw [hw.2] at hB; have hP := zt_B.P hB ht
              refine W.cs (cells' := cN + 2) (slots' := sN + 12) rfl rfl ?_
              refine lv_istore (lv' := [(5, .int v45), (0, .ref b), (1, .ref (zt_ad G 0)), (2, .ref (zt_ad G 94)), (3, .ref (zt_ad G 122)), (4, .int u4)]) hx hb dL_law_405 hl (by decide) rfl (fun ls hl => ?_)
              refine lv_aload_n hx hb dL_law_407 rfl (lv_at hl 3 rfl) ?_
              refine lv_aload_n hx hb dL_law_408 rfl (lv_at hl 1 rfl) ?_
              refine lv_iload hx hb dL_law_409 (lv_at hl 5 rfl) ?_
              refine lv_iconst (v := 1) hx hb dL_law_411 (by decide) ?_
              refine lv_iadd hx hb dL_law_412 ?_
              obtain ⟨g47, hf⟩ := zt_gd_some hf
              refine va_sld hx hb hXs hbl hbA hS (zt_gI_in g47) dL_law_413 ?_
              refine lv_aload_n hx hb dL_law_414 rfl (lv_at hl 1 rfl) ?_
              refine lv_iload hx hb dL_law_415 (lv_at hl 5 rfl) ?_
              refine lv_iconst (v := 2) hx hb dL_law_417 (by decide) ?_
              refine lv_iadd hx hb dL_law_418 ?_
              obtain ⟨g48, hf⟩ := zt_gd_some hf
              refine va_sld hx hb hXs hbl hbA hS (zt_gI_in g48) dL_law_419 ?_
              obtain ⟨⟨v49a, σ50a⟩, hvv49, hf⟩ := zt_bd_some hf
              obtain ⟨v49, hv49, hf⟩ := zt_lt_some hf; obtain ⟨σ50, hσ50, hf⟩ := zt_lt_some hf; rw [show (v49a, σ50a) = (v49, σ50) from by rw [hv49, hσ50]] at hvv49
              refine va_calli (va_runV (As := [.int (xs (u4 + 1).toNatClampNeg), .int (xs (u4 + 2).toNatClampNeg)]) (rest := []) ⟨hx, hb, hml, hown, hts⟩ (m_X9_drop l G (σ := σ46) hvv49) (cwV 2 hts gL_law_X9_drop rfl rfl rfl zh_X9_drop ⟨Nat.le_of_ble_eq_true rfl, Nat.le_of_ble_eq_true rfl⟩) ⟨zt_blind, va_recv hK hP (ci := 8) (q0 := 94) rfl (zt_a8 (rfl : zt_kd 94 = 8)), fun U hU hW => ⟨rfl, zt_go hE hP hS hvac hU hW⟩⟩ rfl rfl hl.1 rfl (lv_room (Nat.le_of_ble_eq_true rfl)) dL_law_420 ⟨(show (cN + 2) + 0 ≤ 601024 by omega), (show (sN + 12) + 0 ≤ 7293034 by omega)⟩) hS (fun q _ h => hGA q h) (fun q h => hGA q h) (fun r u t H locs ht hvm hw hB _ _ hS => ?_)
              rw [hw.1]; have hB : zt_B G u t := hB; rw [hw.2] at hB; have hP := zt_B.P hB ht
              refine W.cs (cells' := cN + 2) (slots' := sN + 12) rfl rfl ?_
              refine lv_istore (lv' := [(6, .int v49), (5, .int v45), (0, .ref b), (1, .ref (zt_ad G 0)), (2, .ref (zt_ad G 94)), (3, .ref (zt_ad G 122)), (4, .int u4)]) hx hb dL_law_423 hl (by decide) rfl (fun ls hl => ?_)
              refine lv_aload_n hx hb dL_law_425 rfl (lv_at hl 4 rfl) ?_
              obtain ⟨v52, hvv52, hf⟩ := zt_bd_some hf
              refine va_calli (va_runV (As := []) (rest := []) ⟨hx, hb, hml, hown, hts⟩ (m_X9_thrown l G (σ := σ50) hvv52) (cwV 0 hts gL_law_X9_thrown rfl rfl rfl zh_X9_thrown ⟨Nat.le_of_ble_eq_true rfl, Nat.le_of_ble_eq_true rfl⟩) ⟨zt_blind, va_recv hK hP (ci := 8) (q0 := 94) rfl (zt_a8 (rfl : zt_kd 94 = 8)), fun U hU hW => ⟨rfl, zt_go hE hP hS hvac hU hW⟩⟩ rfl rfl hl.1 rfl (lv_room (Nat.le_of_ble_eq_true rfl)) dL_law_426 ⟨(show (cN + 2) + 0 ≤ 601024 by omega), (show (sN + 12) + 0 ≤ 7293034 by omega)⟩) hS (fun q _ h => hGA q h) (fun q h => hGA q h) (fun r u t H locs ht hvm hw hB _ _ hS => ?_)
              rw [hw.1]; have hB : zt_B G u t := hB; rw [hw.2] at hB; have hP := zt_B.P hB ht
              refine W.cs (cells' := cN + 2) (slots' := sN + 12) rfl rfl ?_
              refine lv_iload hx hb dL_law_429 (lv_at hl 1 rfl) ?_
              refine lv_icmp_eq (tgt := 436) hx hb dL_law_431 (by decide) (fun c54 => ?_) (fun c54 => ?_)
              · have hf := (if_pos c54).symm.trans hf
                refine lv_iload hx hb dL_law_436 (lv_at hl 1 rfl) ?_
                refine lv_if_ne (tgt := 453) hx hb dL_law_438 (by decide) (fun c55 => ?_) (fun c55 => ?_)
                · have hf := (if_neg c55).symm.trans hf
                  exact B453 rc23 hrc23 σ50 u4 _ _ _ j (cN + 2) (sN + 12) hf hj5 (by omega) (by omega) hj4 hP hS (lv_sub hl [2, 3, 4, 5, 6] rfl)
                · have hf := (if_pos c55).symm.trans hf
                  refine lv_aload_n hx hb dL_law_441 rfl (lv_at hl 5 rfl) ?_
                  refine lv_iconst (v := 0) hx hb dL_law_442 (by decide) ?_
                  refine va_lald hx hb hK hP 122 3 (zt_a12 (k := 122) rfl) rfl (zt_gI_in (show zt_gI 0 1 = true by decide +kernel)) dL_law_443 ?_
                  rw [show ((0 : Int32).toNatClampNeg) = 0 from by decide]
                  refine lv_iload hx hb dL_law_444 (lv_at hl 0 rfl) ?_
                  refine lv_i2l (v := (v49 : Int32).toInt64) hx hb dL_law_446 rfl ?_
                  refine W.lcmp hx hb dL_law_447 ?_
                  refine lv_if_eq (tgt := 453) hx hb dL_law_448 (by decide) (fun c56 => ?_) (fun c56 => ?_)
                  · have hf := (if_pos c56).symm.trans hf
                    exact B453 rc23 hrc23 σ50 u4 _ _ _ j (cN + 2) (sN + 12) hf hj5 (by omega) (by omega) hj4 hP hS (lv_sub hl [2, 3, 4, 5, 6] rfl)
                  · have hf := (if_neg c56).symm.trans hf
                    refine lv_iconst (v := 0) hx hb dL_law_451 (by decide) ?_
                    exact absurd (Option.some.inj hf) (by decide)
              · have hf := (if_neg c54).symm.trans hf
                refine lv_iconst (v := 0) hx hb dL_law_434 (by decide) ?_
                exact absurd (Option.some.inj hf) (by decide)
            · have hf := (if_neg c42).symm.trans hf
              by_cases c57 : ((xs u4.toNatClampNeg) &&& 31) = 4
              · have hf := (if_pos c57).symm.trans hf
                refine lv_tableIn (off := 417) (tgt := 456) hx hb dL_law_39 (by rw [c57]; decide) (by rw [c57]; decide) (by rw [c57]; rfl) (by decide) ?_
                refine lv_aload_n hx hb dL_law_456 rfl (lv_at hl 1 rfl) ?_
                refine lv_aload_n hx hb dL_law_457 rfl (lv_at hl 0 rfl) ?_
                refine lv_iload hx hb dL_law_458 (lv_at hl 4 rfl) ?_
                refine lv_iconst (v := 1) hx hb dL_law_460 (by decide) ?_
                refine lv_iadd hx hb dL_law_461 ?_
                obtain ⟨g58, hf⟩ := zt_gd_some hf
                refine va_sld hx hb hXs hbl hbA hS (zt_gI_in g58) dL_law_462 ?_
                refine lv_aload_n hx hb dL_law_463 rfl (lv_at hl 3 rfl) ?_
                obtain ⟨⟨v59a, σ60a⟩, hvv59, hf⟩ := zt_bd_some hf
                obtain ⟨v59, hv59, hf⟩ := zt_lt_some hf; obtain ⟨σ60, hσ60, hf⟩ := zt_lt_some hf; rw [show (v59a, σ60a) = (v59, σ60) from by rw [hv59, hσ60]] at hvv59
                have hS2 : va_S (zt_A2 G s.heap.size) s.heap H locs := ⟨hS.1, fun q h1 h2 => hS.2.1 q h1 (fun z => h2 (Or.inr z)), fun q h => Or.inr (hS.2.2 q h)⟩
                refine vx_calli (vx_runSX (As := [.ref (zt_ad G 0), .int (xs (u4 + 1).toNatClampNeg), .ref (zt_ad G 122)]) (rest := []) ⟨hx, hb, hml, hown, hts⟩ (m_L_update l hl2 G (σ := σ) hvv59) (vx_cwSW 3 hts gL_law_L_update rfl rfl rfl zh_L_update ⟨Nat.le_of_ble_eq_true rfl, Nat.le_of_ble_eq_true rfl⟩) ⟨zt_blind2, fun U hU hW => ⟨rfl, zt_go2 hE hX hP hS2 hU hW⟩⟩ rfl rfl hl.1 rfl (lv_room (Nat.le_of_ble_eq_true rfl)) dL_law_464 ⟨(show cN + 1 ≤ 601024 by omega), (show sN + 6 ≤ 7293034 by omega)⟩) hS (fun q h1 h2 => h2.elim (fun z => hGA q z) (fun z => absurd h1 (Nat.not_lt.mpr z))) (fun q h => h.elim (fun z => hGA q z) (fun z => Nat.le_trans hS.1 z)) (fun q h1 h2 => h2.elim (fun z => hGA q z) (fun z => absurd h1 (Nat.not_lt.mpr z))) (fun E ce q9 u t H locs ht hvm hw hB _ _ hS hce hcv hcl => hw.elim) (fun r u t H locs ht hvm hw hB _ _ hS => ?_)
                rw [hw.1]; have hB : zt_B G u t := hB; rw [hw.2] at hB; have hP := zt_B.P hB ht
                refine W.cs (cells' := cN + 1) (slots' := sN + 6) rfl rfl ?_
                refine lv_istore (lv' := [(5, .int v59), (0, .ref b), (1, .ref (zt_ad G 0)), (2, .ref (zt_ad G 94)), (3, .ref (zt_ad G 122)), (4, .int u4)]) hx hb dL_law_467 hl (by decide) rfl (fun ls hl => ?_)
                refine lv_aload_n hx hb dL_law_469 rfl (lv_at hl 3 rfl) ?_
                refine lv_aload_n hx hb dL_law_470 rfl (lv_at hl 1 rfl) ?_
                refine lv_iload hx hb dL_law_471 (lv_at hl 5 rfl) ?_
                refine lv_iconst (v := 1) hx hb dL_law_473 (by decide) ?_
                refine lv_iadd hx hb dL_law_474 ?_
                obtain ⟨g61, hf⟩ := zt_gd_some hf
                refine va_sld hx hb hXs hbl hbA hS (zt_gI_in g61) dL_law_475 ?_
                obtain ⟨⟨v62a, σ63a⟩, hvv62, hf⟩ := zt_bd_some hf
                obtain ⟨v62, hv62, hf⟩ := zt_lt_some hf; obtain ⟨σ63, hσ63, hf⟩ := zt_lt_some hf; rw [show (v62a, σ63a) = (v62, σ63) from by rw [hv62, hσ63]] at hvv62
                refine va_calli (va_runV (As := [.int (xs (u4 + 1).toNatClampNeg)]) (rest := []) ⟨hx, hb, hml, hown, hts⟩ (m_X9_update l G (σ := σ60) hvv62) (cwV 1 hts gL_law_X9_update rfl rfl rfl zh_X9_update ⟨Nat.le_of_ble_eq_true rfl, Nat.le_of_ble_eq_true rfl⟩) ⟨zt_blind, va_recv hK hP (ci := 8) (q0 := 94) rfl (zt_a8 (rfl : zt_kd 94 = 8)), fun U hU hW => ⟨rfl, zt_go hE hP hS hvac hU hW⟩⟩ rfl rfl hl.1 rfl (lv_room (Nat.le_of_ble_eq_true rfl)) dL_law_476 ⟨(show (cN + 1) + 0 ≤ 601024 by omega), (show (sN + 6) + 0 ≤ 7293034 by omega)⟩) hS (fun q _ h => hGA q h) (fun q h => hGA q h) (fun r u t H locs ht hvm hw hB _ _ hS => ?_)
                rw [hw.1]; have hB : zt_B G u t := hB; rw [hw.2] at hB; have hP := zt_B.P hB ht
                refine W.cs (cells' := cN + 1) (slots' := sN + 6) rfl rfl ?_
                refine lv_istore (lv' := [(6, .int v62), (5, .int v59), (0, .ref b), (1, .ref (zt_ad G 0)), (2, .ref (zt_ad G 94)), (3, .ref (zt_ad G 122)), (4, .int u4)]) hx hb dL_law_479 hl (by decide) rfl (fun ls hl => ?_)
                refine lv_aload_n hx hb dL_law_481 rfl (lv_at hl 4 rfl) ?_
                obtain ⟨v65, hvv65, hf⟩ := zt_bd_some hf
                refine va_calli (va_runV (As := []) (rest := []) ⟨hx, hb, hml, hown, hts⟩ (m_X9_thrown l G (σ := σ63) hvv65) (cwV 0 hts gL_law_X9_thrown rfl rfl rfl zh_X9_thrown ⟨Nat.le_of_ble_eq_true rfl, Nat.le_of_ble_eq_true rfl⟩) ⟨zt_blind, va_recv hK hP (ci := 8) (q0 := 94) rfl (zt_a8 (rfl : zt_kd 94 = 8)), fun U hU hW => ⟨rfl, zt_go hE hP hS hvac hU hW⟩⟩ rfl rfl hl.1 rfl (lv_room (Nat.le_of_ble_eq_true rfl)) dL_law_482 ⟨(show (cN + 1) + 0 ≤ 601024 by omega), (show (sN + 6) + 0 ≤ 7293034 by omega)⟩) hS (fun q _ h => hGA q h) (fun q h => hGA q h) (fun r u t H locs ht hvm hw hB _ _ hS => ?_)
                rw [hw.1]; have hB : zt_B G u t := hB; rw [hw.2] at hB; have hP := zt_B.P hB ht
                refine W.cs (cells' := cN + 1) (slots' := sN + 6) rfl rfl ?_
                refine lv_iload hx hb dL_law_485 (lv_at hl 1 rfl) ?_
                refine lv_icmp_eq (tgt := 492) hx hb dL_law_487 (by decide) (fun c67 => ?_) (fun c67 => ?_)
                · have hf := (if_pos c67).symm.trans hf
                  refine lv_iload hx hb dL_law_492 (lv_at hl 1 rfl) ?_
                  refine lv_if_ne (tgt := 516) hx hb dL_law_494 (by decide) (fun c68 => ?_) (fun c68 => ?_)
                  · have hf := (if_neg c68).symm.trans hf
                    exact B516 rc23 hrc23 σ63 u4 _ _ _ j (cN + 1) (sN + 6) hf hj5 (by omega) (by omega) hj4 hP hS (lv_sub hl [2, 3, 4, 5, 6] rfl)
                  · have hf := (if_pos c68).symm.trans hf
                    refine lv_aload_n hx hb dL_law_497 rfl (lv_at hl 5 rfl) ?_
                    refine lv_iconst (v := 0) hx hb dL_law_498 (by decide) ?_
                    refine va_lald hx hb hK hP 122 3 (zt_a12 (k := 122) rfl) rfl (zt_gI_in (show zt_gI 0 1 = true by decide +kernel)) dL_law_499 ?_
                    rw [show ((0 : Int32).toNatClampNeg) = 0 from by decide]
                    refine lv_iload hx hb dL_law_500 (lv_at hl 0 rfl) ?_
                    refine lv_if_eq (tgt := 509) hx hb dL_law_502 (by decide) (fun c69 => ?_) (fun c69 => ?_)
                    · have hf := (if_pos c69).symm.trans hf
                      refine lv_lconst (v := (0 : Int32).toInt64) hx hb dL_law_509 (by decide +kernel) ?_
                      exact B510 rc23 hrc23 σ63 0 (σ63 122 0) u4 _ _ _ j (cN + 1) (sN + 6) hf hj5 (by omega) (by omega) hj4 hP hS (lv_sub hl [2, 3, 4, 5, 6] rfl)
                    · have hf := (if_neg c69).symm.trans hf
                      refine lv_lconst (v := (1 : Int32).toInt64) hx hb dL_law_505 (by decide +kernel) ?_
                      refine lv_goto (tgt := 510) hx hb dL_law_506 (by decide) ?_
                      exact B510 rc23 hrc23 σ63 1 (σ63 122 0) u4 _ _ _ j (cN + 1) (sN + 6) hf hj5 (by omega) (by omega) hj4 hP hS (lv_sub hl [2, 3, 4, 5, 6] rfl)
                · have hf := (if_neg c67).symm.trans hf
                  refine lv_iconst (v := 0) hx hb dL_law_490 (by decide) ?_
                  exact absurd (Option.some.inj hf) (by decide)
              · have hf := (if_neg c57).symm.trans hf
                by_cases c70 : ((xs u4.toNatClampNeg) &&& 31) = 5
                · have hf := (if_pos c70).symm.trans hf
                  refine lv_tableIn (off := 480) (tgt := 519) hx hb dL_law_39 (by rw [c70]; decide) (by rw [c70]; decide) (by rw [c70]; rfl) (by decide) ?_
                  refine lv_aload_n hx hb dL_law_519 rfl (lv_at hl 1 rfl) ?_
                  refine lv_aload_n hx hb dL_law_520 rfl (lv_at hl 0 rfl) ?_
                  refine lv_iload hx hb dL_law_521 (lv_at hl 4 rfl) ?_
                  refine lv_iconst (v := 1) hx hb dL_law_523 (by decide) ?_
                  refine lv_iadd hx hb dL_law_524 ?_
                  obtain ⟨g71, hf⟩ := zt_gd_some hf
                  refine va_sld hx hb hXs hbl hbA hS (zt_gI_in g71) dL_law_525 ?_
                  refine lv_aload_n hx hb dL_law_526 rfl (lv_at hl 0 rfl) ?_
                  refine lv_iload hx hb dL_law_527 (lv_at hl 4 rfl) ?_
                  refine lv_iconst (v := 2) hx hb dL_law_529 (by decide) ?_
                  refine lv_iadd hx hb dL_law_530 ?_
                  obtain ⟨g72, hf⟩ := zt_gd_some hf
                  refine va_sld hx hb hXs hbl hbA hS (zt_gI_in g72) dL_law_531 ?_
                  refine lv_aload_n hx hb dL_law_532 rfl (lv_at hl 3 rfl) ?_
                  obtain ⟨⟨v73a, σ74a⟩, hvv73, hf⟩ := zt_bd_some hf
                  obtain ⟨v73, hv73, hf⟩ := zt_lt_some hf; obtain ⟨σ74, hσ74, hf⟩ := zt_lt_some hf; rw [show (v73a, σ74a) = (v73, σ74) from by rw [hv73, hσ74]] at hvv73
                  have hS2 : va_S (zt_A2 G s.heap.size) s.heap H locs := ⟨hS.1, fun q h1 h2 => hS.2.1 q h1 (fun z => h2 (Or.inr z)), fun q h => Or.inr (hS.2.2 q h)⟩
                  refine vx_calli (vx_runSX (As := [.ref (zt_ad G 0), .int (xs (u4 + 1).toNatClampNeg), .int (xs (u4 + 2).toNatClampNeg), .ref (zt_ad G 122)]) (rest := []) ⟨hx, hb, hml, hown, hts⟩ (m_L_zoneHas l hl2 G (σ := σ) hvv73) (vx_cwSW 4 hts gL_law_L_zoneHas rfl rfl rfl zh_L_zoneHas ⟨Nat.le_of_ble_eq_true rfl, Nat.le_of_ble_eq_true rfl⟩) ⟨zt_blind2, fun U hU hW => ⟨rfl, zt_go2 hE hX hP hS2 hU hW⟩⟩ rfl rfl hl.1 rfl (lv_room (Nat.le_of_ble_eq_true rfl)) dL_law_533 ⟨(show cN + 2 ≤ 601024 by omega), (show sN + 12 ≤ 7293034 by omega)⟩) hS (fun q h1 h2 => h2.elim (fun z => hGA q z) (fun z => absurd h1 (Nat.not_lt.mpr z))) (fun q h => h.elim (fun z => hGA q z) (fun z => Nat.le_trans hS.1 z)) (fun q h1 h2 => h2.elim (fun z => hGA q z) (fun z => absurd h1 (Nat.not_lt.mpr z))) (fun E ce q9 u t H locs ht hvm hw hB _ _ hS hce hcv hcl => hw.elim) (fun r u t H locs ht hvm hw hB _ _ hS => ?_)
                  rw [hw.1]; have hB : zt_B G u t := hB; rw [hw.2] at hB; have hP := zt_B.P hB ht
                  refine W.cs (cells' := cN + 2) (slots' := sN + 12) rfl rfl ?_
                  refine lv_istore (lv' := [(5, .int v73), (0, .ref b), (1, .ref (zt_ad G 0)), (2, .ref (zt_ad G 94)), (3, .ref (zt_ad G 122)), (4, .int u4)]) hx hb dL_law_536 hl (by decide) rfl (fun ls hl => ?_)
                  refine lv_aload_n hx hb dL_law_538 rfl (lv_at hl 3 rfl) ?_
                  refine lv_aload_n hx hb dL_law_539 rfl (lv_at hl 1 rfl) ?_
                  refine lv_iload hx hb dL_law_540 (lv_at hl 5 rfl) ?_
                  refine lv_iconst (v := 1) hx hb dL_law_542 (by decide) ?_
                  refine lv_iadd hx hb dL_law_543 ?_
                  obtain ⟨g75, hf⟩ := zt_gd_some hf
                  refine va_sld hx hb hXs hbl hbA hS (zt_gI_in g75) dL_law_544 ?_
                  refine lv_aload_n hx hb dL_law_545 rfl (lv_at hl 1 rfl) ?_
                  refine lv_iload hx hb dL_law_546 (lv_at hl 5 rfl) ?_
                  refine lv_iconst (v := 2) hx hb dL_law_548 (by decide) ?_
                  refine lv_iadd hx hb dL_law_549 ?_
                  obtain ⟨g76, hf⟩ := zt_gd_some hf
                  refine va_sld hx hb hXs hbl hbA hS (zt_gI_in g76) dL_law_550 ?_
                  obtain ⟨⟨v77a, σ78a⟩, hvv77, hf⟩ := zt_bd_some hf
                  obtain ⟨v77, hv77, hf⟩ := zt_lt_some hf; obtain ⟨σ78, hσ78, hf⟩ := zt_lt_some hf; rw [show (v77a, σ78a) = (v77, σ78) from by rw [hv77, hσ78]] at hvv77
                  refine va_calli (va_runV (As := [.int (xs (u4 + 1).toNatClampNeg), .int (xs (u4 + 2).toNatClampNeg)]) (rest := []) ⟨hx, hb, hml, hown, hts⟩ (m_X9_zoneHas l G (σ := σ74) hvv77) (cwV 2 hts gL_law_X9_zoneHas rfl rfl rfl zh_X9_zoneHas ⟨Nat.le_of_ble_eq_true rfl, Nat.le_of_ble_eq_true rfl⟩) ⟨zt_blind, va_recv hK hP (ci := 8) (q0 := 94) rfl (zt_a8 (rfl : zt_kd 94 = 8)), fun U hU hW => ⟨rfl, zt_go hE hP hS hvac hU hW⟩⟩ rfl rfl hl.1 rfl (lv_room (Nat.le_of_ble_eq_true rfl)) dL_law_551 ⟨(show (cN + 2) + 0 ≤ 601024 by omega), (show (sN + 12) + 0 ≤ 7293034 by omega)⟩) hS (fun q _ h => hGA q h) (fun q h => hGA q h) (fun r u t H locs ht hvm hw hB _ _ hS => ?_)
                  rw [hw.1]; have hB : zt_B G u t := hB; rw [hw.2] at hB; have hP := zt_B.P hB ht
                  refine W.cs (cells' := cN + 2) (slots' := sN + 12) rfl rfl ?_
                  refine lv_istore (lv' := [(6, .int v77), (5, .int v73), (0, .ref b), (1, .ref (zt_ad G 0)), (2, .ref (zt_ad G 94)), (3, .ref (zt_ad G 122)), (4, .int u4)]) hx hb dL_law_554 hl (by decide) rfl (fun ls hl => ?_)
                  refine lv_aload_n hx hb dL_law_556 rfl (lv_at hl 4 rfl) ?_
                  obtain ⟨v80, hvv80, hf⟩ := zt_bd_some hf
                  refine va_calli (va_runV (As := []) (rest := []) ⟨hx, hb, hml, hown, hts⟩ (m_X9_thrown l G (σ := σ78) hvv80) (cwV 0 hts gL_law_X9_thrown rfl rfl rfl zh_X9_thrown ⟨Nat.le_of_ble_eq_true rfl, Nat.le_of_ble_eq_true rfl⟩) ⟨zt_blind, va_recv hK hP (ci := 8) (q0 := 94) rfl (zt_a8 (rfl : zt_kd 94 = 8)), fun U hU hW => ⟨rfl, zt_go hE hP hS hvac hU hW⟩⟩ rfl rfl hl.1 rfl (lv_room (Nat.le_of_ble_eq_true rfl)) dL_law_557 ⟨(show (cN + 2) + 0 ≤ 601024 by omega), (show (sN + 12) + 0 ≤ 7293034 by omega)⟩) hS (fun q _ h => hGA q h) (fun q h => hGA q h) (fun r u t H locs ht hvm hw hB _ _ hS => ?_)
                  rw [hw.1]; have hB : zt_B G u t := hB; rw [hw.2] at hB; have hP := zt_B.P hB ht
                  refine W.cs (cells' := cN + 2) (slots' := sN + 12) rfl rfl ?_
                  refine lv_iload hx hb dL_law_560 (lv_at hl 1 rfl) ?_
                  refine lv_icmp_eq (tgt := 567) hx hb dL_law_562 (by decide) (fun c82 => ?_) (fun c82 => ?_)
                  · have hf := (if_pos c82).symm.trans hf
                    refine lv_iload hx hb dL_law_567 (lv_at hl 1 rfl) ?_
                    refine lv_if_ne (tgt := 584) hx hb dL_law_569 (by decide) (fun c83 => ?_) (fun c83 => ?_)
                    · have hf := (if_neg c83).symm.trans hf
                      exact B584 rc23 hrc23 σ78 u4 _ _ _ j (cN + 2) (sN + 12) hf hj5 (by omega) (by omega) hj4 hP hS (lv_sub hl [2, 3, 4, 5, 6] rfl)
                    · have hf := (if_pos c83).symm.trans hf
                      refine lv_aload_n hx hb dL_law_572 rfl (lv_at hl 5 rfl) ?_
                      refine lv_iconst (v := 0) hx hb dL_law_573 (by decide) ?_
                      refine va_lald hx hb hK hP 122 3 (zt_a12 (k := 122) rfl) rfl (zt_gI_in (show zt_gI 0 1 = true by decide +kernel)) dL_law_574 ?_
                      rw [show ((0 : Int32).toNatClampNeg) = 0 from by decide]
                      refine lv_iload hx hb dL_law_575 (lv_at hl 0 rfl) ?_
                      refine lv_i2l (v := (v77 : Int32).toInt64) hx hb dL_law_577 rfl ?_
                      refine W.lcmp hx hb dL_law_578 ?_
                      refine lv_if_eq (tgt := 584) hx hb dL_law_579 (by decide) (fun c84 => ?_) (fun c84 => ?_)
                      · have hf := (if_pos c84).symm.trans hf
                        exact B584 rc23 hrc23 σ78 u4 _ _ _ j (cN + 2) (sN + 12) hf hj5 (by omega) (by omega) hj4 hP hS (lv_sub hl [2, 3, 4, 5, 6] rfl)
                      · have hf := (if_neg c84).symm.trans hf
                        refine lv_iconst (v := 0) hx hb dL_law_582 (by decide) ?_
                        exact absurd (Option.some.inj hf) (by decide)
                  · have hf := (if_neg c82).symm.trans hf
                    refine lv_iconst (v := 0) hx hb dL_law_565 (by decide) ?_
                    exact absurd (Option.some.inj hf) (by decide)
                · have hf := (if_neg c70).symm.trans hf
                  by_cases c85 : ((xs u4.toNatClampNeg) &&& 31) = 6
                  · have hf := (if_pos c85).symm.trans hf
                    refine lv_tableIn (off := 548) (tgt := 587) hx hb dL_law_39 (by rw [c85]; decide) (by rw [c85]; decide) (by rw [c85]; rfl) (by decide) ?_
                    refine lv_aload_n hx hb dL_law_587 rfl (lv_at hl 1 rfl) ?_
                    refine lv_aload_n hx hb dL_law_588 rfl (lv_at hl 0 rfl) ?_
                    refine lv_iload hx hb dL_law_589 (lv_at hl 4 rfl) ?_
                    refine lv_iconst (v := 1) hx hb dL_law_591 (by decide) ?_
                    refine lv_iadd hx hb dL_law_592 ?_
                    obtain ⟨g86, hf⟩ := zt_gd_some hf
                    refine va_sld hx hb hXs hbl hbA hS (zt_gI_in g86) dL_law_593 ?_
                    refine lv_aload_n hx hb dL_law_594 rfl (lv_at hl 0 rfl) ?_
                    refine lv_iload hx hb dL_law_595 (lv_at hl 4 rfl) ?_
                    refine lv_iconst (v := 2) hx hb dL_law_597 (by decide) ?_
                    refine lv_iadd hx hb dL_law_598 ?_
                    obtain ⟨g87, hf⟩ := zt_gd_some hf
                    refine va_sld hx hb hXs hbl hbA hS (zt_gI_in g87) dL_law_599 ?_
                    refine lv_aload_n hx hb dL_law_600 rfl (lv_at hl 0 rfl) ?_
                    refine lv_iload hx hb dL_law_601 (lv_at hl 4 rfl) ?_
                    refine lv_iconst (v := 3) hx hb dL_law_603 (by decide) ?_
                    refine lv_iadd hx hb dL_law_604 ?_
                    obtain ⟨g88, hf⟩ := zt_gd_some hf
                    refine va_sld hx hb hXs hbl hbA hS (zt_gI_in g88) dL_law_605 ?_
                    refine lv_aload_n hx hb dL_law_606 rfl (lv_at hl 3 rfl) ?_
                    obtain ⟨⟨v89a, σ90a⟩, hvv89, hf⟩ := zt_bd_some hf
                    obtain ⟨v89, hv89, hf⟩ := zt_lt_some hf; obtain ⟨σ90, hσ90, hf⟩ := zt_lt_some hf; rw [show (v89a, σ90a) = (v89, σ90) from by rw [hv89, hσ90]] at hvv89
                    have hS2 : va_S (zt_A2 G s.heap.size) s.heap H locs := ⟨hS.1, fun q h1 h2 => hS.2.1 q h1 (fun z => h2 (Or.inr z)), fun q h => Or.inr (hS.2.2 q h)⟩
                    refine vx_calli (vx_runSX (As := [.ref (zt_ad G 0), .int (xs (u4 + 1).toNatClampNeg), .int (xs (u4 + 2).toNatClampNeg), .int (xs (u4 + 3).toNatClampNeg), .ref (zt_ad G 122)]) (rest := []) ⟨hx, hb, hml, hown, hts⟩ (m_L_record l hl2 G (σ := σ) hvv89) (vx_cwSW 5 hts gL_law_L_record rfl rfl rfl zh_L_record ⟨Nat.le_of_ble_eq_true rfl, Nat.le_of_ble_eq_true rfl⟩) ⟨zt_blind2, fun U hU hW => ⟨rfl, zt_go2 hE hX hP hS2 hU hW⟩⟩ rfl rfl hl.1 rfl (lv_room (Nat.le_of_ble_eq_true rfl)) dL_law_607 ⟨(show cN + 2 ≤ 601024 by omega), (show sN + 12 ≤ 7293034 by omega)⟩) hS (fun q h1 h2 => h2.elim (fun z => hGA q z) (fun z => absurd h1 (Nat.not_lt.mpr z))) (fun q h => h.elim (fun z => hGA q z) (fun z => Nat.le_trans hS.1 z)) (fun q h1 h2 => h2.elim (fun z => hGA q z) (fun z => absurd h1 (Nat.not_lt.mpr z))) (fun E ce q9 u t H locs ht hvm hw hB _ _ hS hce hcv hcl => hw.elim) (fun r u t H locs ht hvm hw hB _ _ hS => ?_)
                    rw [hw.1]; have hB : zt_B G u t := hB; rw [hw.2] at hB; have hP := zt_B.P hB ht
                    refine W.cs (cells' := cN + 2) (slots' := sN + 12) rfl rfl ?_
                    refine lv_istore (lv' := [(5, .int v89), (0, .ref b), (1, .ref (zt_ad G 0)), (2, .ref (zt_ad G 94)), (3, .ref (zt_ad G 122)), (4, .int u4)]) hx hb dL_law_610 hl (by decide) rfl (fun ls hl => ?_)
                    refine lv_aload_n hx hb dL_law_612 rfl (lv_at hl 3 rfl) ?_
                    refine lv_aload_n hx hb dL_law_613 rfl (lv_at hl 1 rfl) ?_
                    refine lv_iload hx hb dL_law_614 (lv_at hl 5 rfl) ?_
                    refine lv_iconst (v := 1) hx hb dL_law_616 (by decide) ?_
                    refine lv_iadd hx hb dL_law_617 ?_
                    obtain ⟨g91, hf⟩ := zt_gd_some hf
                    refine va_sld hx hb hXs hbl hbA hS (zt_gI_in g91) dL_law_618 ?_
                    refine lv_aload_n hx hb dL_law_619 rfl (lv_at hl 1 rfl) ?_
                    refine lv_iload hx hb dL_law_620 (lv_at hl 5 rfl) ?_
                    refine lv_iconst (v := 2) hx hb dL_law_622 (by decide) ?_
                    refine lv_iadd hx hb dL_law_623 ?_
                    obtain ⟨g92, hf⟩ := zt_gd_some hf
                    refine va_sld hx hb hXs hbl hbA hS (zt_gI_in g92) dL_law_624 ?_
                    refine lv_aload_n hx hb dL_law_625 rfl (lv_at hl 1 rfl) ?_
                    refine lv_iload hx hb dL_law_626 (lv_at hl 5 rfl) ?_
                    refine lv_iconst (v := 3) hx hb dL_law_628 (by decide) ?_
                    refine lv_iadd hx hb dL_law_629 ?_
                    obtain ⟨g93, hf⟩ := zt_gd_some hf
                    refine va_sld hx hb hXs hbl hbA hS (zt_gI_in g93) dL_law_630 ?_
                    obtain ⟨⟨v94a, σ95a⟩, hvv94, hf⟩ := zt_bd_some hf
                    obtain ⟨v94, hv94, hf⟩ := zt_lt_some hf; obtain ⟨σ95, hσ95, hf⟩ := zt_lt_some hf; rw [show (v94a, σ95a) = (v94, σ95) from by rw [hv94, hσ95]] at hvv94
                    refine va_calli (va_runV (As := [.int (xs (u4 + 1).toNatClampNeg), .int (xs (u4 + 2).toNatClampNeg), .int (xs (u4 + 3).toNatClampNeg)]) (rest := []) ⟨hx, hb, hml, hown, hts⟩ (m_X9_record l G (σ := σ90) hvv94) (cwV 3 hts gL_law_X9_record rfl rfl rfl zh_X9_record ⟨Nat.le_of_ble_eq_true rfl, Nat.le_of_ble_eq_true rfl⟩) ⟨zt_blind, va_recv hK hP (ci := 8) (q0 := 94) rfl (zt_a8 (rfl : zt_kd 94 = 8)), fun U hU hW => ⟨rfl, zt_go hE hP hS hvac hU hW⟩⟩ rfl rfl hl.1 rfl (lv_room (Nat.le_of_ble_eq_true rfl)) dL_law_631 ⟨(show (cN + 2) + 0 ≤ 601024 by omega), (show (sN + 12) + 0 ≤ 7293034 by omega)⟩) hS (fun q _ h => hGA q h) (fun q h => hGA q h) (fun r u t H locs ht hvm hw hB _ _ hS => ?_)
                    rw [hw.1]; have hB : zt_B G u t := hB; rw [hw.2] at hB; have hP := zt_B.P hB ht
                    refine W.cs (cells' := cN + 2) (slots' := sN + 12) rfl rfl ?_
                    refine lv_istore (lv' := [(6, .int v94), (5, .int v89), (0, .ref b), (1, .ref (zt_ad G 0)), (2, .ref (zt_ad G 94)), (3, .ref (zt_ad G 122)), (4, .int u4)]) hx hb dL_law_634 hl (by decide) rfl (fun ls hl => ?_)
                    refine lv_aload_n hx hb dL_law_636 rfl (lv_at hl 4 rfl) ?_
                    obtain ⟨v97, hvv97, hf⟩ := zt_bd_some hf
                    refine va_calli (va_runV (As := []) (rest := []) ⟨hx, hb, hml, hown, hts⟩ (m_X9_thrown l G (σ := σ95) hvv97) (cwV 0 hts gL_law_X9_thrown rfl rfl rfl zh_X9_thrown ⟨Nat.le_of_ble_eq_true rfl, Nat.le_of_ble_eq_true rfl⟩) ⟨zt_blind, va_recv hK hP (ci := 8) (q0 := 94) rfl (zt_a8 (rfl : zt_kd 94 = 8)), fun U hU hW => ⟨rfl, zt_go hE hP hS hvac hU hW⟩⟩ rfl rfl hl.1 rfl (lv_room (Nat.le_of_ble_eq_true rfl)) dL_law_637 ⟨(show (cN + 2) + 0 ≤ 601024 by omega), (show (sN + 12) + 0 ≤ 7293034 by omega)⟩) hS (fun q _ h => hGA q h) (fun q h => hGA q h) (fun r u t H locs ht hvm hw hB _ _ hS => ?_)
                    rw [hw.1]; have hB : zt_B G u t := hB; rw [hw.2] at hB; have hP := zt_B.P hB ht
                    refine W.cs (cells' := cN + 2) (slots' := sN + 12) rfl rfl ?_
                    refine lv_iload hx hb dL_law_640 (lv_at hl 1 rfl) ?_
                    refine lv_icmp_eq (tgt := 647) hx hb dL_law_642 (by decide) (fun c99 => ?_) (fun c99 => ?_)
                    · have hf := (if_pos c99).symm.trans hf
                      refine lv_iload hx hb dL_law_647 (lv_at hl 1 rfl) ?_
                      refine lv_if_ne (tgt := 664) hx hb dL_law_649 (by decide) (fun c100 => ?_) (fun c100 => ?_)
                      · have hf := (if_neg c100).symm.trans hf
                        exact B664 rc23 hrc23 σ95 u4 _ _ _ j (cN + 2) (sN + 12) hf hj5 (by omega) (by omega) hj4 hP hS (lv_sub hl [2, 3, 4, 5, 6] rfl)
                      · have hf := (if_pos c100).symm.trans hf
                        refine lv_aload_n hx hb dL_law_652 rfl (lv_at hl 5 rfl) ?_
                        refine lv_iconst (v := 0) hx hb dL_law_653 (by decide) ?_
                        refine va_lald hx hb hK hP 122 3 (zt_a12 (k := 122) rfl) rfl (zt_gI_in (show zt_gI 0 1 = true by decide +kernel)) dL_law_654 ?_
                        rw [show ((0 : Int32).toNatClampNeg) = 0 from by decide]
                        refine lv_iload hx hb dL_law_655 (lv_at hl 0 rfl) ?_
                        refine lv_i2l (v := (v94 : Int32).toInt64) hx hb dL_law_657 rfl ?_
                        refine W.lcmp hx hb dL_law_658 ?_
                        refine lv_if_eq (tgt := 664) hx hb dL_law_659 (by decide) (fun c101 => ?_) (fun c101 => ?_)
                        · have hf := (if_pos c101).symm.trans hf
                          exact B664 rc23 hrc23 σ95 u4 _ _ _ j (cN + 2) (sN + 12) hf hj5 (by omega) (by omega) hj4 hP hS (lv_sub hl [2, 3, 4, 5, 6] rfl)
                        · have hf := (if_neg c101).symm.trans hf
                          refine lv_iconst (v := 0) hx hb dL_law_662 (by decide) ?_
                          exact absurd (Option.some.inj hf) (by decide)
                    · have hf := (if_neg c99).symm.trans hf
                      refine lv_iconst (v := 0) hx hb dL_law_645 (by decide) ?_
                      exact absurd (Option.some.inj hf) (by decide)
                  · have hf := (if_neg c85).symm.trans hf
                    by_cases c102 : ((xs u4.toNatClampNeg) &&& 31) = 7
                    · have hf := (if_pos c102).symm.trans hf
                      refine lv_tableIn (off := 628) (tgt := 667) hx hb dL_law_39 (by rw [c102]; decide) (by rw [c102]; decide) (by rw [c102]; rfl) (by decide) ?_
                      refine lv_aload_n hx hb dL_law_667 rfl (lv_at hl 1 rfl) ?_
                      refine lv_aload_n hx hb dL_law_668 rfl (lv_at hl 0 rfl) ?_
                      refine lv_iload hx hb dL_law_669 (lv_at hl 4 rfl) ?_
                      refine lv_iconst (v := 1) hx hb dL_law_671 (by decide) ?_
                      refine lv_iadd hx hb dL_law_672 ?_
                      obtain ⟨g103, hf⟩ := zt_gd_some hf
                      refine va_sld hx hb hXs hbl hbA hS (zt_gI_in g103) dL_law_673 ?_
                      refine lv_aload_n hx hb dL_law_674 rfl (lv_at hl 3 rfl) ?_
                      obtain ⟨⟨v104a, σ105a⟩, hvv104, hf⟩ := zt_bd_some hf
                      obtain ⟨v104, hv104, hf⟩ := zt_lt_some hf; obtain ⟨σ105, hσ105, hf⟩ := zt_lt_some hf; rw [show (v104a, σ105a) = (v104, σ105) from by rw [hv104, hσ105]] at hvv104
                      have hS2 : va_S (zt_A2 G s.heap.size) s.heap H locs := ⟨hS.1, fun q h1 h2 => hS.2.1 q h1 (fun z => h2 (Or.inr z)), fun q h => Or.inr (hS.2.2 q h)⟩
                      refine vx_calli (vx_runSX (As := [.ref (zt_ad G 0), .int (xs (u4 + 1).toNatClampNeg), .ref (zt_ad G 122)]) (rest := []) ⟨hx, hb, hml, hown, hts⟩ (m_L_bringUp l hl2 G (σ := σ) hvv104) (vx_cwSW 3 hts gL_law_L_bringUp rfl rfl rfl zh_L_bringUp ⟨Nat.le_of_ble_eq_true rfl, Nat.le_of_ble_eq_true rfl⟩) ⟨zt_blind2, fun U hU hW => ⟨rfl, zt_go2 hE hX hP hS2 hU hW⟩⟩ rfl rfl hl.1 rfl (lv_room (Nat.le_of_ble_eq_true rfl)) dL_law_675 ⟨(show cN + 1 ≤ 601024 by omega), (show sN + 6 ≤ 7293034 by omega)⟩) hS (fun q h1 h2 => h2.elim (fun z => hGA q z) (fun z => absurd h1 (Nat.not_lt.mpr z))) (fun q h => h.elim (fun z => hGA q z) (fun z => Nat.le_trans hS.1 z)) (fun q h1 h2 => h2.elim (fun z => hGA q z) (fun z => absurd h1 (Nat.not_lt.mpr z))) (fun E ce q9 u t H locs ht hvm hw hB _ _ hS hce hcv hcl => hw.elim) (fun r u t H locs ht hvm hw hB _ _ hS => ?_)
                      rw [hw.1]; have hB : zt_B G u t := hB; rw [hw.2] at hB; have hP := zt_B.P hB ht
                      refine W.cs (cells' := cN + 1) (slots' := sN + 6) rfl rfl ?_
                      refine lv_istore (lv' := [(5, .int v104), (0, .ref b), (1, .ref (zt_ad G 0)), (2, .ref (zt_ad G 94)), (3, .ref (zt_ad G 122)), (4, .int u4)]) hx hb dL_law_678 hl (by decide) rfl (fun ls hl => ?_)
                      refine lv_aload_n hx hb dL_law_680 rfl (lv_at hl 3 rfl) ?_
                      refine lv_aload_n hx hb dL_law_681 rfl (lv_at hl 1 rfl) ?_
                      refine lv_iload hx hb dL_law_682 (lv_at hl 5 rfl) ?_
                      refine lv_iconst (v := 1) hx hb dL_law_684 (by decide) ?_
                      refine lv_iadd hx hb dL_law_685 ?_
                      obtain ⟨g106, hf⟩ := zt_gd_some hf
                      refine va_sld hx hb hXs hbl hbA hS (zt_gI_in g106) dL_law_686 ?_
                      obtain ⟨⟨v107a, σ108a⟩, hvv107, hf⟩ := zt_bd_some hf
                      obtain ⟨v107, hv107, hf⟩ := zt_lt_some hf; obtain ⟨σ108, hσ108, hf⟩ := zt_lt_some hf; rw [show (v107a, σ108a) = (v107, σ108) from by rw [hv107, hσ108]] at hvv107
                      refine va_calli (va_runV (As := [.int (xs (u4 + 1).toNatClampNeg)]) (rest := []) ⟨hx, hb, hml, hown, hts⟩ (m_X9_bringUp l G (σ := σ105) hvv107) (cwV 1 hts gL_law_X9_bringUp rfl rfl rfl zh_X9_bringUp ⟨Nat.le_of_ble_eq_true rfl, Nat.le_of_ble_eq_true rfl⟩) ⟨zt_blind, va_recv hK hP (ci := 8) (q0 := 94) rfl (zt_a8 (rfl : zt_kd 94 = 8)), fun U hU hW => ⟨rfl, zt_go hE hP hS hvac hU hW⟩⟩ rfl rfl hl.1 rfl (lv_room (Nat.le_of_ble_eq_true rfl)) dL_law_687 ⟨(show (cN + 1) + 0 ≤ 601024 by omega), (show (sN + 6) + 0 ≤ 7293034 by omega)⟩) hS (fun q _ h => hGA q h) (fun q h => hGA q h) (fun r u t H locs ht hvm hw hB _ _ hS => ?_)
                      rw [hw.1]; have hB : zt_B G u t := hB; rw [hw.2] at hB; have hP := zt_B.P hB ht
                      refine W.cs (cells' := cN + 1) (slots' := sN + 6) rfl rfl ?_
                      refine lv_istore (lv' := [(6, .int v107), (5, .int v104), (0, .ref b), (1, .ref (zt_ad G 0)), (2, .ref (zt_ad G 94)), (3, .ref (zt_ad G 122)), (4, .int u4)]) hx hb dL_law_690 hl (by decide) rfl (fun ls hl => ?_)
                      refine lv_aload_n hx hb dL_law_692 rfl (lv_at hl 4 rfl) ?_
                      obtain ⟨v110, hvv110, hf⟩ := zt_bd_some hf
                      refine va_calli (va_runV (As := []) (rest := []) ⟨hx, hb, hml, hown, hts⟩ (m_X9_thrown l G (σ := σ108) hvv110) (cwV 0 hts gL_law_X9_thrown rfl rfl rfl zh_X9_thrown ⟨Nat.le_of_ble_eq_true rfl, Nat.le_of_ble_eq_true rfl⟩) ⟨zt_blind, va_recv hK hP (ci := 8) (q0 := 94) rfl (zt_a8 (rfl : zt_kd 94 = 8)), fun U hU hW => ⟨rfl, zt_go hE hP hS hvac hU hW⟩⟩ rfl rfl hl.1 rfl (lv_room (Nat.le_of_ble_eq_true rfl)) dL_law_693 ⟨(show (cN + 1) + 0 ≤ 601024 by omega), (show (sN + 6) + 0 ≤ 7293034 by omega)⟩) hS (fun q _ h => hGA q h) (fun q h => hGA q h) (fun r u t H locs ht hvm hw hB _ _ hS => ?_)
                      rw [hw.1]; have hB : zt_B G u t := hB; rw [hw.2] at hB; have hP := zt_B.P hB ht
                      refine W.cs (cells' := cN + 1) (slots' := sN + 6) rfl rfl ?_
                      refine lv_iload hx hb dL_law_696 (lv_at hl 1 rfl) ?_
                      refine lv_icmp_eq (tgt := 703) hx hb dL_law_698 (by decide) (fun c112 => ?_) (fun c112 => ?_)
                      · have hf := (if_pos c112).symm.trans hf
                        refine lv_iload hx hb dL_law_703 (lv_at hl 1 rfl) ?_
                        refine lv_if_ne (tgt := 720) hx hb dL_law_705 (by decide) (fun c113 => ?_) (fun c113 => ?_)
                        · have hf := (if_neg c113).symm.trans hf
                          exact B720 rc23 hrc23 σ108 u4 _ _ _ j (cN + 1) (sN + 6) hf hj5 (by omega) (by omega) hj4 hP hS (lv_sub hl [2, 3, 4, 5, 6] rfl)
                        · have hf := (if_pos c113).symm.trans hf
                          refine lv_aload_n hx hb dL_law_708 rfl (lv_at hl 5 rfl) ?_
                          refine lv_iconst (v := 0) hx hb dL_law_709 (by decide) ?_
                          refine va_lald hx hb hK hP 122 3 (zt_a12 (k := 122) rfl) rfl (zt_gI_in (show zt_gI 0 1 = true by decide +kernel)) dL_law_710 ?_
                          rw [show ((0 : Int32).toNatClampNeg) = 0 from by decide]
                          refine lv_iload hx hb dL_law_711 (lv_at hl 0 rfl) ?_
                          refine lv_i2l (v := (v107 : Int32).toInt64) hx hb dL_law_713 rfl ?_
                          refine W.lcmp hx hb dL_law_714 ?_
                          refine lv_if_eq (tgt := 720) hx hb dL_law_715 (by decide) (fun c114 => ?_) (fun c114 => ?_)
                          · have hf := (if_pos c114).symm.trans hf
                            exact B720 rc23 hrc23 σ108 u4 _ _ _ j (cN + 1) (sN + 6) hf hj5 (by omega) (by omega) hj4 hP hS (lv_sub hl [2, 3, 4, 5, 6] rfl)
                          · have hf := (if_neg c114).symm.trans hf
                            refine lv_iconst (v := 0) hx hb dL_law_718 (by decide) ?_
                            exact absurd (Option.some.inj hf) (by decide)
                      · have hf := (if_neg c112).symm.trans hf
                        refine lv_iconst (v := 0) hx hb dL_law_701 (by decide) ?_
                        exact absurd (Option.some.inj hf) (by decide)
                    · have hf := (if_neg c102).symm.trans hf
                      by_cases c115 : ((xs u4.toNatClampNeg) &&& 31) = 8
                      · have hf := (if_pos c115).symm.trans hf
                        refine lv_tableIn (off := 684) (tgt := 723) hx hb dL_law_39 (by rw [c115]; decide) (by rw [c115]; decide) (by rw [c115]; rfl) (by decide) ?_
                        refine lv_aload_n hx hb dL_law_723 rfl (lv_at hl 1 rfl) ?_
                        refine lv_aload_n hx hb dL_law_724 rfl (lv_at hl 0 rfl) ?_
                        refine lv_iload hx hb dL_law_725 (lv_at hl 4 rfl) ?_
                        refine lv_iconst (v := 1) hx hb dL_law_727 (by decide) ?_
                        refine lv_iadd hx hb dL_law_728 ?_
                        obtain ⟨g116, hf⟩ := zt_gd_some hf
                        refine va_sld hx hb hXs hbl hbA hS (zt_gI_in g116) dL_law_729 ?_
                        refine lv_aload_n hx hb dL_law_730 rfl (lv_at hl 0 rfl) ?_
                        refine lv_iload hx hb dL_law_731 (lv_at hl 4 rfl) ?_
                        refine lv_iconst (v := 2) hx hb dL_law_733 (by decide) ?_
                        refine lv_iadd hx hb dL_law_734 ?_
                        obtain ⟨g117, hf⟩ := zt_gd_some hf
                        refine va_sld hx hb hXs hbl hbA hS (zt_gI_in g117) dL_law_735 ?_
                        refine lv_if_eq (tgt := 743) hx hb dL_law_736 (by decide) (fun c118 => ?_) (fun c118 => ?_)
                        · have hf := (if_pos c118).symm.trans hf
                          refine lv_iconst (v := 0) hx hb dL_law_743 (by decide) ?_
                          exact B744 rc23 hrc23 σ 0 (xs (u4 + 1).toNatClampNeg) u4 _ _ _ j cN sN hf hj5 (by omega) (by omega) hj4 hP hS (lv_sub hl [0, 1, 2, 3, 4] rfl)
                        · have hf := (if_neg c118).symm.trans hf
                          refine lv_iconst (v := 1) hx hb dL_law_739 (by decide) ?_
                          refine lv_goto (tgt := 744) hx hb dL_law_740 (by decide) ?_
                          exact B744 rc23 hrc23 σ 1 (xs (u4 + 1).toNatClampNeg) u4 _ _ _ j cN sN hf hj5 (by omega) (by omega) hj4 hP hS (lv_sub hl [0, 1, 2, 3, 4] rfl)
                      · have hf := (if_neg c115).symm.trans hf
                        by_cases c119 : ((xs u4.toNatClampNeg) &&& 31) = 9
                        · have hf := (if_pos c119).symm.trans hf
                          refine lv_tableIn (off := 748) (tgt := 787) hx hb dL_law_39 (by rw [c119]; decide) (by rw [c119]; decide) (by rw [c119]; rfl) (by decide) ?_
                          refine lv_aload_n hx hb dL_law_787 rfl (lv_at hl 1 rfl) ?_
                          refine lv_aload_n hx hb dL_law_788 rfl (lv_at hl 0 rfl) ?_
                          refine lv_iload hx hb dL_law_789 (lv_at hl 4 rfl) ?_
                          refine lv_iconst (v := 1) hx hb dL_law_791 (by decide) ?_
                          refine lv_iadd hx hb dL_law_792 ?_
                          obtain ⟨g120, hf⟩ := zt_gd_some hf
                          refine va_sld hx hb hXs hbl hbA hS (zt_gI_in g120) dL_law_793 ?_
                          refine lv_aload_n hx hb dL_law_794 rfl (lv_at hl 0 rfl) ?_
                          refine lv_iload hx hb dL_law_795 (lv_at hl 4 rfl) ?_
                          refine lv_iconst (v := 2) hx hb dL_law_797 (by decide) ?_
                          refine lv_iadd hx hb dL_law_798 ?_
                          obtain ⟨g121, hf⟩ := zt_gd_some hf
                          refine va_sld hx hb hXs hbl hbA hS (zt_gI_in g121) dL_law_799 ?_
                          refine lv_aload_n hx hb dL_law_800 rfl (lv_at hl 0 rfl) ?_
                          refine lv_iload hx hb dL_law_801 (lv_at hl 4 rfl) ?_
                          refine lv_iconst (v := 3) hx hb dL_law_803 (by decide) ?_
                          refine lv_iadd hx hb dL_law_804 ?_
                          obtain ⟨g122, hf⟩ := zt_gd_some hf
                          refine va_sld hx hb hXs hbl hbA hS (zt_gI_in g122) dL_law_805 ?_
                          refine lv_aload_n hx hb dL_law_806 rfl (lv_at hl 3 rfl) ?_
                          obtain ⟨⟨v123a, σ124a⟩, hvv123, hf⟩ := zt_bd_some hf
                          obtain ⟨v123, hv123, hf⟩ := zt_lt_some hf; obtain ⟨σ124, hσ124, hf⟩ := zt_lt_some hf; rw [show (v123a, σ124a) = (v123, σ124) from by rw [hv123, hσ124]] at hvv123
                          have hS2 : va_S (zt_A2 G s.heap.size) s.heap H locs := ⟨hS.1, fun q h1 h2 => hS.2.1 q h1 (fun z => h2 (Or.inr z)), fun q h => Or.inr (hS.2.2 q h)⟩
                          refine vx_calli (vx_runSX (As := [.ref (zt_ad G 0), .int (xs (u4 + 1).toNatClampNeg), .int (xs (u4 + 2).toNatClampNeg), .int (xs (u4 + 3).toNatClampNeg), .ref (zt_ad G 122)]) (rest := []) ⟨hx, hb, hml, hown, hts⟩ (m_L_ask l hl2 G (σ := σ) hvv123) (vx_cwSW 5 hts gL_law_L_ask rfl rfl rfl zh_L_ask ⟨Nat.le_of_ble_eq_true rfl, Nat.le_of_ble_eq_true rfl⟩) ⟨zt_blind2, fun U hU hW => ⟨rfl, zt_go2 hE hX hP hS2 hU hW⟩⟩ rfl rfl hl.1 rfl (lv_room (Nat.le_of_ble_eq_true rfl)) dL_law_807 ⟨(show cN + 3 ≤ 601024 by omega), (show sN + 18 ≤ 7293034 by omega)⟩) hS (fun q h1 h2 => h2.elim (fun z => hGA q z) (fun z => absurd h1 (Nat.not_lt.mpr z))) (fun q h => h.elim (fun z => hGA q z) (fun z => Nat.le_trans hS.1 z)) (fun q h1 h2 => h2.elim (fun z => hGA q z) (fun z => absurd h1 (Nat.not_lt.mpr z))) (fun E ce q9 u t H locs ht hvm hw hB _ _ hS hce hcv hcl => hw.elim) (fun r u t H locs ht hvm hw hB _ _ hS => ?_)
                          rw [hw.1]; have hB : zt_B G u t := hB; rw [hw.2] at hB; have hP := zt_B.P hB ht
                          refine W.cs (cells' := cN + 3) (slots' := sN + 18) rfl rfl ?_
                          refine lv_istore (lv' := [(5, .int v123), (0, .ref b), (1, .ref (zt_ad G 0)), (2, .ref (zt_ad G 94)), (3, .ref (zt_ad G 122)), (4, .int u4)]) hx hb dL_law_810 hl (by decide) rfl (fun ls hl => ?_)
                          refine lv_aload_n hx hb dL_law_812 rfl (lv_at hl 3 rfl) ?_
                          refine lv_aload_n hx hb dL_law_813 rfl (lv_at hl 1 rfl) ?_
                          refine lv_iload hx hb dL_law_814 (lv_at hl 5 rfl) ?_
                          refine lv_iconst (v := 1) hx hb dL_law_816 (by decide) ?_
                          refine lv_iadd hx hb dL_law_817 ?_
                          obtain ⟨g125, hf⟩ := zt_gd_some hf
                          refine va_sld hx hb hXs hbl hbA hS (zt_gI_in g125) dL_law_818 ?_
                          refine lv_aload_n hx hb dL_law_819 rfl (lv_at hl 1 rfl) ?_
                          refine lv_iload hx hb dL_law_820 (lv_at hl 5 rfl) ?_
                          refine lv_iconst (v := 2) hx hb dL_law_822 (by decide) ?_
                          refine lv_iadd hx hb dL_law_823 ?_
                          obtain ⟨g126, hf⟩ := zt_gd_some hf
                          refine va_sld hx hb hXs hbl hbA hS (zt_gI_in g126) dL_law_824 ?_
                          refine lv_aload_n hx hb dL_law_825 rfl (lv_at hl 1 rfl) ?_
                          refine lv_iload hx hb dL_law_826 (lv_at hl 5 rfl) ?_
                          refine lv_iconst (v := 3) hx hb dL_law_828 (by decide) ?_
                          refine lv_iadd hx hb dL_law_829 ?_
                          obtain ⟨g127, hf⟩ := zt_gd_some hf
                          refine va_sld hx hb hXs hbl hbA hS (zt_gI_in g127) dL_law_830 ?_
                          obtain ⟨⟨v128a, σ129a⟩, hvv128, hf⟩ := zt_bd_some hf
                          obtain ⟨v128, hv128, hf⟩ := zt_lt_some hf; obtain ⟨σ129, hσ129, hf⟩ := zt_lt_some hf; rw [show (v128a, σ129a) = (v128, σ129) from by rw [hv128, hσ129]] at hvv128
                          refine va_calli (va_runV (As := [.int (xs (u4 + 1).toNatClampNeg), .int (xs (u4 + 2).toNatClampNeg), .int (xs (u4 + 3).toNatClampNeg)]) (rest := []) ⟨hx, hb, hml, hown, hts⟩ (m_X9_ask l G (σ := σ124) hvv128) (cwV 3 hts gL_law_X9_ask rfl rfl rfl zh_X9_ask ⟨Nat.le_of_ble_eq_true rfl, Nat.le_of_ble_eq_true rfl⟩) ⟨zt_blind, va_recv hK hP (ci := 8) (q0 := 94) rfl (zt_a8 (rfl : zt_kd 94 = 8)), fun U hU hW => ⟨rfl, zt_go hE hP hS hvac hU hW⟩⟩ rfl rfl hl.1 rfl (lv_room (Nat.le_of_ble_eq_true rfl)) dL_law_831 ⟨(show (cN + 3) + 0 ≤ 601024 by omega), (show (sN + 18) + 0 ≤ 7293034 by omega)⟩) hS (fun q _ h => hGA q h) (fun q h => hGA q h) (fun r u t H locs ht hvm hw hB _ _ hS => ?_)
                          rw [hw.1]; have hB : zt_B G u t := hB; rw [hw.2] at hB; have hP := zt_B.P hB ht
                          refine W.cs (cells' := cN + 3) (slots' := sN + 18) rfl rfl ?_
                          refine lv_istore (lv' := [(6, .int v128), (5, .int v123), (0, .ref b), (1, .ref (zt_ad G 0)), (2, .ref (zt_ad G 94)), (3, .ref (zt_ad G 122)), (4, .int u4)]) hx hb dL_law_834 hl (by decide) rfl (fun ls hl => ?_)
                          refine lv_aload_n hx hb dL_law_836 rfl (lv_at hl 4 rfl) ?_
                          obtain ⟨v131, hvv131, hf⟩ := zt_bd_some hf
                          refine va_calli (va_runV (As := []) (rest := []) ⟨hx, hb, hml, hown, hts⟩ (m_X9_thrown l G (σ := σ129) hvv131) (cwV 0 hts gL_law_X9_thrown rfl rfl rfl zh_X9_thrown ⟨Nat.le_of_ble_eq_true rfl, Nat.le_of_ble_eq_true rfl⟩) ⟨zt_blind, va_recv hK hP (ci := 8) (q0 := 94) rfl (zt_a8 (rfl : zt_kd 94 = 8)), fun U hU hW => ⟨rfl, zt_go hE hP hS hvac hU hW⟩⟩ rfl rfl hl.1 rfl (lv_room (Nat.le_of_ble_eq_true rfl)) dL_law_837 ⟨(show (cN + 3) + 0 ≤ 601024 by omega), (show (sN + 18) + 0 ≤ 7293034 by omega)⟩) hS (fun q _ h => hGA q h) (fun q h => hGA q h) (fun r u t H locs ht hvm hw hB _ _ hS => ?_)
                          rw [hw.1]; have hB : zt_B G u t := hB; rw [hw.2] at hB; have hP := zt_B.P hB ht
                          refine W.cs (cells' := cN + 3) (slots' := sN + 18) rfl rfl ?_
                          refine lv_iload hx hb dL_law_840 (lv_at hl 1 rfl) ?_
                          refine lv_icmp_eq (tgt := 847) hx hb dL_law_842 (by decide) (fun c133 => ?_) (fun c133 => ?_)
                          · have hf := (if_pos c133).symm.trans hf
                            refine lv_iload hx hb dL_law_847 (lv_at hl 1 rfl) ?_
                            refine lv_if_ne (tgt := 864) hx hb dL_law_849 (by decide) (fun c134 => ?_) (fun c134 => ?_)
                            · have hf := (if_neg c134).symm.trans hf
                              exact B864 rc23 hrc23 σ129 u4 _ _ _ j (cN + 3) (sN + 18) hf hj5 (by omega) (by omega) hj4 hP hS (lv_sub hl [2, 3, 4, 5, 6] rfl)
                            · have hf := (if_pos c134).symm.trans hf
                              refine lv_aload_n hx hb dL_law_852 rfl (lv_at hl 5 rfl) ?_
                              refine lv_iconst (v := 0) hx hb dL_law_853 (by decide) ?_
                              refine va_lald hx hb hK hP 122 3 (zt_a12 (k := 122) rfl) rfl (zt_gI_in (show zt_gI 0 1 = true by decide +kernel)) dL_law_854 ?_
                              rw [show ((0 : Int32).toNatClampNeg) = 0 from by decide]
                              refine lv_iload hx hb dL_law_855 (lv_at hl 0 rfl) ?_
                              refine lv_i2l (v := (v128 : Int32).toInt64) hx hb dL_law_857 rfl ?_
                              refine W.lcmp hx hb dL_law_858 ?_
                              refine lv_if_eq (tgt := 864) hx hb dL_law_859 (by decide) (fun c135 => ?_) (fun c135 => ?_)
                              · have hf := (if_pos c135).symm.trans hf
                                exact B864 rc23 hrc23 σ129 u4 _ _ _ j (cN + 3) (sN + 18) hf hj5 (by omega) (by omega) hj4 hP hS (lv_sub hl [2, 3, 4, 5, 6] rfl)
                              · have hf := (if_neg c135).symm.trans hf
                                refine lv_iconst (v := 0) hx hb dL_law_862 (by decide) ?_
                                exact absurd (Option.some.inj hf) (by decide)
                          · have hf := (if_neg c133).symm.trans hf
                            refine lv_iconst (v := 0) hx hb dL_law_845 (by decide) ?_
                            exact absurd (Option.some.inj hf) (by decide)
                        · have hf := (if_neg c119).symm.trans hf
                          by_cases c136 : ((xs u4.toNatClampNeg) &&& 31) = 10
                          · have hf := (if_pos c136).symm.trans hf
                            refine lv_tableIn (off := 828) (tgt := 867) hx hb dL_law_39 (by rw [c136]; decide) (by rw [c136]; decide) (by rw [c136]; rfl) (by decide) ?_
                            refine lv_aload_n hx hb dL_law_867 rfl (lv_at hl 1 rfl) ?_
                            refine lv_aload_n hx hb dL_law_868 rfl (lv_at hl 0 rfl) ?_
                            refine lv_iload hx hb dL_law_869 (lv_at hl 4 rfl) ?_
                            refine lv_iconst (v := 1) hx hb dL_law_871 (by decide) ?_
                            refine lv_iadd hx hb dL_law_872 ?_
                            obtain ⟨g137, hf⟩ := zt_gd_some hf
                            refine va_sld hx hb hXs hbl hbA hS (zt_gI_in g137) dL_law_873 ?_
                            refine lv_aload_n hx hb dL_law_874 rfl (lv_at hl 3 rfl) ?_
                            obtain ⟨⟨v138a, σ139a⟩, hvv138, hf⟩ := zt_bd_some hf
                            obtain ⟨v138, hv138, hf⟩ := zt_lt_some hf; obtain ⟨σ139, hσ139, hf⟩ := zt_lt_some hf; rw [show (v138a, σ139a) = (v138, σ139) from by rw [hv138, hσ139]] at hvv138
                            have hS2 : va_S (zt_A2 G s.heap.size) s.heap H locs := ⟨hS.1, fun q h1 h2 => hS.2.1 q h1 (fun z => h2 (Or.inr z)), fun q h => Or.inr (hS.2.2 q h)⟩
                            refine vx_calli (vx_runSX (As := [.ref (zt_ad G 0), .int (xs (u4 + 1).toNatClampNeg), .ref (zt_ad G 122)]) (rest := []) ⟨hx, hb, hml, hown, hts⟩ (m_L_told l hl2 G (σ := σ) hvv138) (vx_cwSW 3 hts gL_law_L_told rfl rfl rfl zh_L_told ⟨Nat.le_of_ble_eq_true rfl, Nat.le_of_ble_eq_true rfl⟩) ⟨zt_blind2, fun U hU hW => ⟨rfl, zt_go2 hE hX hP hS2 hU hW⟩⟩ rfl rfl hl.1 rfl (lv_room (Nat.le_of_ble_eq_true rfl)) dL_law_875 ⟨(show cN + 1 ≤ 601024 by omega), (show sN + 6 ≤ 7293034 by omega)⟩) hS (fun q h1 h2 => h2.elim (fun z => hGA q z) (fun z => absurd h1 (Nat.not_lt.mpr z))) (fun q h => h.elim (fun z => hGA q z) (fun z => Nat.le_trans hS.1 z)) (fun q h1 h2 => h2.elim (fun z => hGA q z) (fun z => absurd h1 (Nat.not_lt.mpr z))) (fun E ce q9 u t H locs ht hvm hw hB _ _ hS hce hcv hcl => hw.elim) (fun r u t H locs ht hvm hw hB _ _ hS => ?_)
                            rw [hw.1]; have hB : zt_B G u t := hB; rw [hw.2] at hB; have hP := zt_B.P hB ht
                            refine W.cs (cells' := cN + 1) (slots' := sN + 6) rfl rfl ?_
                            refine lv_istore (lv' := [(5, .int v138), (0, .ref b), (1, .ref (zt_ad G 0)), (2, .ref (zt_ad G 94)), (3, .ref (zt_ad G 122)), (4, .int u4)]) hx hb dL_law_878 hl (by decide) rfl (fun ls hl => ?_)
                            refine lv_aload_n hx hb dL_law_880 rfl (lv_at hl 3 rfl) ?_
                            refine lv_aload_n hx hb dL_law_881 rfl (lv_at hl 1 rfl) ?_
                            refine lv_iload hx hb dL_law_882 (lv_at hl 5 rfl) ?_
                            refine lv_iconst (v := 1) hx hb dL_law_884 (by decide) ?_
                            refine lv_iadd hx hb dL_law_885 ?_
                            obtain ⟨g140, hf⟩ := zt_gd_some hf
                            refine va_sld hx hb hXs hbl hbA hS (zt_gI_in g140) dL_law_886 ?_
                            obtain ⟨⟨v141a, σ142a⟩, hvv141, hf⟩ := zt_bd_some hf
                            obtain ⟨v141, hv141, hf⟩ := zt_lt_some hf; obtain ⟨σ142, hσ142, hf⟩ := zt_lt_some hf; rw [show (v141a, σ142a) = (v141, σ142) from by rw [hv141, hσ142]] at hvv141
                            refine va_calli (va_runV (As := [.int (xs (u4 + 1).toNatClampNeg)]) (rest := []) ⟨hx, hb, hml, hown, hts⟩ (m_X9_told l G (σ := σ139) hvv141) (cwV 1 hts gL_law_X9_told rfl rfl rfl zh_X9_told ⟨Nat.le_of_ble_eq_true rfl, Nat.le_of_ble_eq_true rfl⟩) ⟨zt_blind, va_recv hK hP (ci := 8) (q0 := 94) rfl (zt_a8 (rfl : zt_kd 94 = 8)), fun U hU hW => ⟨rfl, zt_go hE hP hS hvac hU hW⟩⟩ rfl rfl hl.1 rfl (lv_room (Nat.le_of_ble_eq_true rfl)) dL_law_887 ⟨(show (cN + 1) + 0 ≤ 601024 by omega), (show (sN + 6) + 0 ≤ 7293034 by omega)⟩) hS (fun q _ h => hGA q h) (fun q h => hGA q h) (fun r u t H locs ht hvm hw hB _ _ hS => ?_)
                            rw [hw.1]; have hB : zt_B G u t := hB; rw [hw.2] at hB; have hP := zt_B.P hB ht
                            refine W.cs (cells' := cN + 1) (slots' := sN + 6) rfl rfl ?_
                            refine lv_istore (lv' := [(6, .int v141), (5, .int v138), (0, .ref b), (1, .ref (zt_ad G 0)), (2, .ref (zt_ad G 94)), (3, .ref (zt_ad G 122)), (4, .int u4)]) hx hb dL_law_890 hl (by decide) rfl (fun ls hl => ?_)
                            refine lv_aload_n hx hb dL_law_892 rfl (lv_at hl 4 rfl) ?_
                            obtain ⟨v144, hvv144, hf⟩ := zt_bd_some hf
                            refine va_calli (va_runV (As := []) (rest := []) ⟨hx, hb, hml, hown, hts⟩ (m_X9_thrown l G (σ := σ142) hvv144) (cwV 0 hts gL_law_X9_thrown rfl rfl rfl zh_X9_thrown ⟨Nat.le_of_ble_eq_true rfl, Nat.le_of_ble_eq_true rfl⟩) ⟨zt_blind, va_recv hK hP (ci := 8) (q0 := 94) rfl (zt_a8 (rfl : zt_kd 94 = 8)), fun U hU hW => ⟨rfl, zt_go hE hP hS hvac hU hW⟩⟩ rfl rfl hl.1 rfl (lv_room (Nat.le_of_ble_eq_true rfl)) dL_law_893 ⟨(show (cN + 1) + 0 ≤ 601024 by omega), (show (sN + 6) + 0 ≤ 7293034 by omega)⟩) hS (fun q _ h => hGA q h) (fun q h => hGA q h) (fun r u t H locs ht hvm hw hB _ _ hS => ?_)
                            rw [hw.1]; have hB : zt_B G u t := hB; rw [hw.2] at hB; have hP := zt_B.P hB ht
                            refine W.cs (cells' := cN + 1) (slots' := sN + 6) rfl rfl ?_
                            refine lv_iload hx hb dL_law_896 (lv_at hl 1 rfl) ?_
                            refine lv_icmp_eq (tgt := 903) hx hb dL_law_898 (by decide) (fun c146 => ?_) (fun c146 => ?_)
                            · have hf := (if_pos c146).symm.trans hf
                              refine lv_iload hx hb dL_law_903 (lv_at hl 1 rfl) ?_
                              refine lv_if_ne (tgt := 920) hx hb dL_law_905 (by decide) (fun c147 => ?_) (fun c147 => ?_)
                              · have hf := (if_neg c147).symm.trans hf
                                exact B920 rc23 hrc23 σ142 u4 _ _ _ j (cN + 1) (sN + 6) hf hj5 (by omega) (by omega) hj4 hP hS (lv_sub hl [2, 3, 4, 5, 6] rfl)
                              · have hf := (if_pos c147).symm.trans hf
                                refine lv_aload_n hx hb dL_law_908 rfl (lv_at hl 5 rfl) ?_
                                refine lv_iconst (v := 0) hx hb dL_law_909 (by decide) ?_
                                refine va_lald hx hb hK hP 122 3 (zt_a12 (k := 122) rfl) rfl (zt_gI_in (show zt_gI 0 1 = true by decide +kernel)) dL_law_910 ?_
                                rw [show ((0 : Int32).toNatClampNeg) = 0 from by decide]
                                refine lv_iload hx hb dL_law_911 (lv_at hl 0 rfl) ?_
                                refine lv_i2l (v := (v141 : Int32).toInt64) hx hb dL_law_913 rfl ?_
                                refine W.lcmp hx hb dL_law_914 ?_
                                refine lv_if_eq (tgt := 920) hx hb dL_law_915 (by decide) (fun c148 => ?_) (fun c148 => ?_)
                                · have hf := (if_pos c148).symm.trans hf
                                  exact B920 rc23 hrc23 σ142 u4 _ _ _ j (cN + 1) (sN + 6) hf hj5 (by omega) (by omega) hj4 hP hS (lv_sub hl [2, 3, 4, 5, 6] rfl)
                                · have hf := (if_neg c148).symm.trans hf
                                  refine lv_iconst (v := 0) hx hb dL_law_918 (by decide) ?_
                                  exact absurd (Option.some.inj hf) (by decide)
                            · have hf := (if_neg c146).symm.trans hf
                              refine lv_iconst (v := 0) hx hb dL_law_901 (by decide) ?_
                              exact absurd (Option.some.inj hf) (by decide)
                          · have hf := (if_neg c136).symm.trans hf
                            by_cases c149 : ((xs u4.toNatClampNeg) &&& 31) = 11
                            · have hf := (if_pos c149).symm.trans hf
                              refine lv_tableIn (off := 884) (tgt := 923) hx hb dL_law_39 (by rw [c149]; decide) (by rw [c149]; decide) (by rw [c149]; rfl) (by decide) ?_
                              refine lv_aload_n hx hb dL_law_923 rfl (lv_at hl 1 rfl) ?_
                              refine lv_aload_n hx hb dL_law_924 rfl (lv_at hl 0 rfl) ?_
                              refine lv_iload hx hb dL_law_925 (lv_at hl 4 rfl) ?_
                              refine lv_iconst (v := 1) hx hb dL_law_927 (by decide) ?_
                              refine lv_iadd hx hb dL_law_928 ?_
                              obtain ⟨g150, hf⟩ := zt_gd_some hf
                              refine va_sld hx hb hXs hbl hbA hS (zt_gI_in g150) dL_law_929 ?_
                              refine lv_aload_n hx hb dL_law_930 rfl (lv_at hl 0 rfl) ?_
                              refine lv_iload hx hb dL_law_931 (lv_at hl 4 rfl) ?_
                              refine lv_iconst (v := 2) hx hb dL_law_933 (by decide) ?_
                              refine lv_iadd hx hb dL_law_934 ?_
                              obtain ⟨g151, hf⟩ := zt_gd_some hf
                              refine va_sld hx hb hXs hbl hbA hS (zt_gI_in g151) dL_law_935 ?_
                              refine lv_aload_n hx hb dL_law_936 rfl (lv_at hl 0 rfl) ?_
                              refine lv_iload hx hb dL_law_937 (lv_at hl 4 rfl) ?_
                              refine lv_iconst (v := 3) hx hb dL_law_939 (by decide) ?_
                              refine lv_iadd hx hb dL_law_940 ?_
                              obtain ⟨g152, hf⟩ := zt_gd_some hf
                              refine va_sld hx hb hXs hbl hbA hS (zt_gI_in g152) dL_law_941 ?_
                              refine lv_if_eq (tgt := 949) hx hb dL_law_942 (by decide) (fun c153 => ?_) (fun c153 => ?_)
                              · have hf := (if_pos c153).symm.trans hf
                                refine lv_iconst (v := 0) hx hb dL_law_949 (by decide) ?_
                                exact B950 rc23 hrc23 σ 0 (xs (u4 + 2).toNatClampNeg) (xs (u4 + 1).toNatClampNeg) u4 _ _ _ j cN sN hf hj5 (by omega) (by omega) hj4 hP hS (lv_sub hl [0, 1, 2, 3, 4] rfl)
                              · have hf := (if_neg c153).symm.trans hf
                                refine lv_iconst (v := 1) hx hb dL_law_945 (by decide) ?_
                                refine lv_goto (tgt := 950) hx hb dL_law_946 (by decide) ?_
                                exact B950 rc23 hrc23 σ 1 (xs (u4 + 2).toNatClampNeg) (xs (u4 + 1).toNatClampNeg) u4 _ _ _ j cN sN hf hj5 (by omega) (by omega) hj4 hP hS (lv_sub hl [0, 1, 2, 3, 4] rfl)
                            · have hf := (if_neg c149).symm.trans hf
                              by_cases c154 : ((xs u4.toNatClampNeg) &&& 31) = 12
                              · have hf := (if_pos c154).symm.trans hf
                                refine lv_tableIn (off := 980) (tgt := 1019) hx hb dL_law_39 (by rw [c154]; decide) (by rw [c154]; decide) (by rw [c154]; rfl) (by decide) ?_
                                refine lv_aload_n hx hb dL_law_1019 rfl (lv_at hl 1 rfl) ?_
                                refine lv_aload_n hx hb dL_law_1020 rfl (lv_at hl 0 rfl) ?_
                                refine lv_iload hx hb dL_law_1021 (lv_at hl 4 rfl) ?_
                                refine lv_iconst (v := 1) hx hb dL_law_1023 (by decide) ?_
                                refine lv_iadd hx hb dL_law_1024 ?_
                                obtain ⟨g155, hf⟩ := zt_gd_some hf
                                refine va_sld hx hb hXs hbl hbA hS (zt_gI_in g155) dL_law_1025 ?_
                                refine lv_aload_n hx hb dL_law_1026 rfl (lv_at hl 0 rfl) ?_
                                refine lv_iload hx hb dL_law_1027 (lv_at hl 4 rfl) ?_
                                refine lv_iconst (v := 2) hx hb dL_law_1029 (by decide) ?_
                                refine lv_iadd hx hb dL_law_1030 ?_
                                obtain ⟨g156, hf⟩ := zt_gd_some hf
                                refine va_sld hx hb hXs hbl hbA hS (zt_gI_in g156) dL_law_1031 ?_
                                refine lv_aload_n hx hb dL_law_1032 rfl (lv_at hl 3 rfl) ?_
                                obtain ⟨⟨v157a, σ158a⟩, hvv157, hf⟩ := zt_bd_some hf
                                obtain ⟨v157, hv157, hf⟩ := zt_lt_some hf; obtain ⟨σ158, hσ158, hf⟩ := zt_lt_some hf; rw [show (v157a, σ158a) = (v157, σ158) from by rw [hv157, hσ158]] at hvv157
                                have hS2 : va_S (zt_A2 G s.heap.size) s.heap H locs := ⟨hS.1, fun q h1 h2 => hS.2.1 q h1 (fun z => h2 (Or.inr z)), fun q h => Or.inr (hS.2.2 q h)⟩
                                refine vx_calli (vx_runSX (As := [.ref (zt_ad G 0), .int (xs (u4 + 1).toNatClampNeg), .int (xs (u4 + 2).toNatClampNeg), .ref (zt_ad G 122)]) (rest := []) ⟨hx, hb, hml, hown, hts⟩ (m_L_resolve l hl2 G (σ := σ) hvv157) (vx_cwSW 4 hts gL_law_L_resolve rfl rfl rfl zh_L_resolve ⟨Nat.le_of_ble_eq_true rfl, Nat.le_of_ble_eq_true rfl⟩) ⟨zt_blind2, fun U hU hW => ⟨rfl, zt_go2 hE hX hP hS2 hU hW⟩⟩ rfl rfl hl.1 rfl (lv_room (Nat.le_of_ble_eq_true rfl)) dL_law_1033 ⟨(show cN + 1 ≤ 601024 by omega), (show sN + 6 ≤ 7293034 by omega)⟩) hS (fun q h1 h2 => h2.elim (fun z => hGA q z) (fun z => absurd h1 (Nat.not_lt.mpr z))) (fun q h => h.elim (fun z => hGA q z) (fun z => Nat.le_trans hS.1 z)) (fun q h1 h2 => h2.elim (fun z => hGA q z) (fun z => absurd h1 (Nat.not_lt.mpr z))) (fun E ce q9 u t H locs ht hvm hw hB _ _ hS hce hcv hcl => hw.elim) (fun r u t H locs ht hvm hw hB _ _ hS => ?_)
                                rw [hw.1]; have hB : zt_B G u t := hB; rw [hw.2] at hB; have hP := zt_B.P hB ht
                                refine W.cs (cells' := cN + 1) (slots' := sN + 6) rfl rfl ?_
                                refine lv_istore (lv' := [(5, .int v157), (0, .ref b), (1, .ref (zt_ad G 0)), (2, .ref (zt_ad G 94)), (3, .ref (zt_ad G 122)), (4, .int u4)]) hx hb dL_law_1036 hl (by decide) rfl (fun ls hl => ?_)
                                refine lv_aload_n hx hb dL_law_1038 rfl (lv_at hl 3 rfl) ?_
                                refine lv_aload_n hx hb dL_law_1039 rfl (lv_at hl 1 rfl) ?_
                                refine lv_iload hx hb dL_law_1040 (lv_at hl 5 rfl) ?_
                                refine lv_iconst (v := 1) hx hb dL_law_1042 (by decide) ?_
                                refine lv_iadd hx hb dL_law_1043 ?_
                                obtain ⟨g159, hf⟩ := zt_gd_some hf
                                refine va_sld hx hb hXs hbl hbA hS (zt_gI_in g159) dL_law_1044 ?_
                                refine lv_aload_n hx hb dL_law_1045 rfl (lv_at hl 1 rfl) ?_
                                refine lv_iload hx hb dL_law_1046 (lv_at hl 5 rfl) ?_
                                refine lv_iconst (v := 2) hx hb dL_law_1048 (by decide) ?_
                                refine lv_iadd hx hb dL_law_1049 ?_
                                obtain ⟨g160, hf⟩ := zt_gd_some hf
                                refine va_sld hx hb hXs hbl hbA hS (zt_gI_in g160) dL_law_1050 ?_
                                obtain ⟨⟨v161a, σ162a⟩, hvv161, hf⟩ := zt_bd_some hf
                                obtain ⟨v161, hv161, hf⟩ := zt_lt_some hf; obtain ⟨σ162, hσ162, hf⟩ := zt_lt_some hf; rw [show (v161a, σ162a) = (v161, σ162) from by rw [hv161, hσ162]] at hvv161
                                refine va_calli (va_runV (As := [.int (xs (u4 + 1).toNatClampNeg), .int (xs (u4 + 2).toNatClampNeg)]) (rest := []) ⟨hx, hb, hml, hown, hts⟩ (m_X9_resolve l G (σ := σ158) hvv161) (cwV 2 hts gL_law_X9_resolve rfl rfl rfl zh_X9_resolve ⟨Nat.le_of_ble_eq_true rfl, Nat.le_of_ble_eq_true rfl⟩) ⟨zt_blind, va_recv hK hP (ci := 8) (q0 := 94) rfl (zt_a8 (rfl : zt_kd 94 = 8)), fun U hU hW => ⟨rfl, zt_go hE hP hS hvac hU hW⟩⟩ rfl rfl hl.1 rfl (lv_room (Nat.le_of_ble_eq_true rfl)) dL_law_1051 ⟨(show (cN + 1) + 0 ≤ 601024 by omega), (show (sN + 6) + 0 ≤ 7293034 by omega)⟩) hS (fun q _ h => hGA q h) (fun q h => hGA q h) (fun r u t H locs ht hvm hw hB _ _ hS => ?_)
                                rw [hw.1]; have hB : zt_B G u t := hB; rw [hw.2] at hB; have hP := zt_B.P hB ht
                                refine W.cs (cells' := cN + 1) (slots' := sN + 6) rfl rfl ?_
                                refine lv_istore (lv' := [(6, .int v161), (5, .int v157), (0, .ref b), (1, .ref (zt_ad G 0)), (2, .ref (zt_ad G 94)), (3, .ref (zt_ad G 122)), (4, .int u4)]) hx hb dL_law_1054 hl (by decide) rfl (fun ls hl => ?_)
                                refine lv_aload_n hx hb dL_law_1056 rfl (lv_at hl 4 rfl) ?_
                                obtain ⟨v164, hvv164, hf⟩ := zt_bd_some hf
                                refine va_calli (va_runV (As := []) (rest := []) ⟨hx, hb, hml, hown, hts⟩ (m_X9_thrown l G (σ := σ162) hvv164) (cwV 0 hts gL_law_X9_thrown rfl rfl rfl zh_X9_thrown ⟨Nat.le_of_ble_eq_true rfl, Nat.le_of_ble_eq_true rfl⟩) ⟨zt_blind, va_recv hK hP (ci := 8) (q0 := 94) rfl (zt_a8 (rfl : zt_kd 94 = 8)), fun U hU hW => ⟨rfl, zt_go hE hP hS hvac hU hW⟩⟩ rfl rfl hl.1 rfl (lv_room (Nat.le_of_ble_eq_true rfl)) dL_law_1057 ⟨(show (cN + 1) + 0 ≤ 601024 by omega), (show (sN + 6) + 0 ≤ 7293034 by omega)⟩) hS (fun q _ h => hGA q h) (fun q h => hGA q h) (fun r u t H locs ht hvm hw hB _ _ hS => ?_)
                                rw [hw.1]; have hB : zt_B G u t := hB; rw [hw.2] at hB; have hP := zt_B.P hB ht
                                refine W.cs (cells' := cN + 1) (slots' := sN + 6) rfl rfl ?_
                                refine lv_iload hx hb dL_law_1060 (lv_at hl 1 rfl) ?_
                                refine lv_icmp_eq (tgt := 1067) hx hb dL_law_1062 (by decide) (fun c166 => ?_) (fun c166 => ?_)
                                · have hf := (if_pos c166).symm.trans hf
                                  refine lv_iload hx hb dL_law_1067 (lv_at hl 1 rfl) ?_
                                  refine lv_if_ne (tgt := 1084) hx hb dL_law_1069 (by decide) (fun c167 => ?_) (fun c167 => ?_)
                                  · have hf := (if_neg c167).symm.trans hf
                                    exact B1084 rc23 hrc23 σ162 u4 _ _ _ j (cN + 1) (sN + 6) hf hj5 (by omega) (by omega) hj4 hP hS (lv_sub hl [2, 3, 4, 5, 6] rfl)
                                  · have hf := (if_pos c167).symm.trans hf
                                    refine lv_aload_n hx hb dL_law_1072 rfl (lv_at hl 5 rfl) ?_
                                    refine lv_iconst (v := 0) hx hb dL_law_1073 (by decide) ?_
                                    refine va_lald hx hb hK hP 122 3 (zt_a12 (k := 122) rfl) rfl (zt_gI_in (show zt_gI 0 1 = true by decide +kernel)) dL_law_1074 ?_
                                    rw [show ((0 : Int32).toNatClampNeg) = 0 from by decide]
                                    refine lv_iload hx hb dL_law_1075 (lv_at hl 0 rfl) ?_
                                    refine lv_i2l (v := (v161 : Int32).toInt64) hx hb dL_law_1077 rfl ?_
                                    refine W.lcmp hx hb dL_law_1078 ?_
                                    refine lv_if_eq (tgt := 1084) hx hb dL_law_1079 (by decide) (fun c168 => ?_) (fun c168 => ?_)
                                    · have hf := (if_pos c168).symm.trans hf
                                      exact B1084 rc23 hrc23 σ162 u4 _ _ _ j (cN + 1) (sN + 6) hf hj5 (by omega) (by omega) hj4 hP hS (lv_sub hl [2, 3, 4, 5, 6] rfl)
                                    · have hf := (if_neg c168).symm.trans hf
                                      refine lv_iconst (v := 0) hx hb dL_law_1082 (by decide) ?_
                                      exact absurd (Option.some.inj hf) (by decide)
                                · have hf := (if_neg c166).symm.trans hf
                                  refine lv_iconst (v := 0) hx hb dL_law_1065 (by decide) ?_
                                  exact absurd (Option.some.inj hf) (by decide)
                              · have hf := (if_neg c154).symm.trans hf
                                by_cases c169 : ((xs u4.toNatClampNeg) &&& 31) = 13
                                · have hf := (if_pos c169).symm.trans hf
                                  refine lv_tableIn (off := 1048) (tgt := 1087) hx hb dL_law_39 (by rw [c169]; decide) (by rw [c169]; decide) (by rw [c169]; rfl) (by decide) ?_
                                  refine lv_aload_n hx hb dL_law_1087 rfl (lv_at hl 1 rfl) ?_
                                  refine lv_aload_n hx hb dL_law_1088 rfl (lv_at hl 0 rfl) ?_
                                  refine lv_iload hx hb dL_law_1089 (lv_at hl 4 rfl) ?_
                                  refine lv_iconst (v := 1) hx hb dL_law_1091 (by decide) ?_
                                  refine lv_iadd hx hb dL_law_1092 ?_
                                  obtain ⟨g170, hf⟩ := zt_gd_some hf
                                  refine va_sld hx hb hXs hbl hbA hS (zt_gI_in g170) dL_law_1093 ?_
                                  refine lv_aload_n hx hb dL_law_1094 rfl (lv_at hl 0 rfl) ?_
                                  refine lv_iload hx hb dL_law_1095 (lv_at hl 4 rfl) ?_
                                  refine lv_iconst (v := 2) hx hb dL_law_1097 (by decide) ?_
                                  refine lv_iadd hx hb dL_law_1098 ?_
                                  obtain ⟨g171, hf⟩ := zt_gd_some hf
                                  refine va_sld hx hb hXs hbl hbA hS (zt_gI_in g171) dL_law_1099 ?_
                                  refine lv_aload_n hx hb dL_law_1100 rfl (lv_at hl 3 rfl) ?_
                                  obtain ⟨⟨v172a, σ173a⟩, hvv172, hf⟩ := zt_bd_some hf
                                  obtain ⟨v172, hv172, hf⟩ := zt_lt_some hf; obtain ⟨σ173, hσ173, hf⟩ := zt_lt_some hf; rw [show (v172a, σ173a) = (v172, σ173) from by rw [hv172, hσ173]] at hvv172
                                  have hS2 : va_S (zt_A2 G s.heap.size) s.heap H locs := ⟨hS.1, fun q h1 h2 => hS.2.1 q h1 (fun z => h2 (Or.inr z)), fun q h => Or.inr (hS.2.2 q h)⟩
                                  refine vx_calli (vx_runSX (As := [.ref (zt_ad G 0), .int (xs (u4 + 1).toNatClampNeg), .int (xs (u4 + 2).toNatClampNeg), .ref (zt_ad G 122)]) (rest := []) ⟨hx, hb, hml, hown, hts⟩ (m_L_resolveAnew l hl2 G (σ := σ) hvv172) (vx_cwSW 4 hts gL_law_L_resolveAnew rfl rfl rfl zh_L_resolveAnew ⟨Nat.le_of_ble_eq_true rfl, Nat.le_of_ble_eq_true rfl⟩) ⟨zt_blind2, fun U hU hW => ⟨rfl, zt_go2 hE hX hP hS2 hU hW⟩⟩ rfl rfl hl.1 rfl (lv_room (Nat.le_of_ble_eq_true rfl)) dL_law_1101 ⟨(show cN + 1 ≤ 601024 by omega), (show sN + 6 ≤ 7293034 by omega)⟩) hS (fun q h1 h2 => h2.elim (fun z => hGA q z) (fun z => absurd h1 (Nat.not_lt.mpr z))) (fun q h => h.elim (fun z => hGA q z) (fun z => Nat.le_trans hS.1 z)) (fun q h1 h2 => h2.elim (fun z => hGA q z) (fun z => absurd h1 (Nat.not_lt.mpr z))) (fun E ce q9 u t H locs ht hvm hw hB _ _ hS hce hcv hcl => hw.elim) (fun r u t H locs ht hvm hw hB _ _ hS => ?_)
                                  rw [hw.1]; have hB : zt_B G u t := hB; rw [hw.2] at hB; have hP := zt_B.P hB ht
                                  refine W.cs (cells' := cN + 1) (slots' := sN + 6) rfl rfl ?_
                                  refine lv_istore (lv' := [(5, .int v172), (0, .ref b), (1, .ref (zt_ad G 0)), (2, .ref (zt_ad G 94)), (3, .ref (zt_ad G 122)), (4, .int u4)]) hx hb dL_law_1104 hl (by decide) rfl (fun ls hl => ?_)
                                  refine lv_aload_n hx hb dL_law_1106 rfl (lv_at hl 3 rfl) ?_
                                  refine lv_aload_n hx hb dL_law_1107 rfl (lv_at hl 1 rfl) ?_
                                  refine lv_iload hx hb dL_law_1108 (lv_at hl 5 rfl) ?_
                                  refine lv_iconst (v := 1) hx hb dL_law_1110 (by decide) ?_
                                  refine lv_iadd hx hb dL_law_1111 ?_
                                  obtain ⟨g174, hf⟩ := zt_gd_some hf
                                  refine va_sld hx hb hXs hbl hbA hS (zt_gI_in g174) dL_law_1112 ?_
                                  refine lv_aload_n hx hb dL_law_1113 rfl (lv_at hl 1 rfl) ?_
                                  refine lv_iload hx hb dL_law_1114 (lv_at hl 5 rfl) ?_
                                  refine lv_iconst (v := 2) hx hb dL_law_1116 (by decide) ?_
                                  refine lv_iadd hx hb dL_law_1117 ?_
                                  obtain ⟨g175, hf⟩ := zt_gd_some hf
                                  refine va_sld hx hb hXs hbl hbA hS (zt_gI_in g175) dL_law_1118 ?_
                                  obtain ⟨⟨v176a, σ177a⟩, hvv176, hf⟩ := zt_bd_some hf
                                  obtain ⟨v176, hv176, hf⟩ := zt_lt_some hf; obtain ⟨σ177, hσ177, hf⟩ := zt_lt_some hf; rw [show (v176a, σ177a) = (v176, σ177) from by rw [hv176, hσ177]] at hvv176
                                  refine va_calli (va_runV (As := [.int (xs (u4 + 1).toNatClampNeg), .int (xs (u4 + 2).toNatClampNeg)]) (rest := []) ⟨hx, hb, hml, hown, hts⟩ (m_X9_resolveAnew l G (σ := σ173) hvv176) (cwV 2 hts gL_law_X9_resolveAnew rfl rfl rfl zh_X9_resolveAnew ⟨Nat.le_of_ble_eq_true rfl, Nat.le_of_ble_eq_true rfl⟩) ⟨zt_blind, va_recv hK hP (ci := 8) (q0 := 94) rfl (zt_a8 (rfl : zt_kd 94 = 8)), fun U hU hW => ⟨rfl, zt_go hE hP hS hvac hU hW⟩⟩ rfl rfl hl.1 rfl (lv_room (Nat.le_of_ble_eq_true rfl)) dL_law_1119 ⟨(show (cN + 1) + 0 ≤ 601024 by omega), (show (sN + 6) + 0 ≤ 7293034 by omega)⟩) hS (fun q _ h => hGA q h) (fun q h => hGA q h) (fun r u t H locs ht hvm hw hB _ _ hS => ?_)
                                  rw [hw.1]; have hB : zt_B G u t := hB; rw [hw.2] at hB; have hP := zt_B.P hB ht
                                  refine W.cs (cells' := cN + 1) (slots' := sN + 6) rfl rfl ?_
                                  refine lv_istore (lv' := [(6, .int v176), (5, .int v172), (0, .ref b), (1, .ref (zt_ad G 0)), (2, .ref (zt_ad G 94)), (3, .ref (zt_ad G 122)), (4, .int u4)]) hx hb dL_law_1122 hl (by decide) rfl (fun ls hl => ?_)
                                  refine lv_aload_n hx hb dL_law_1124 rfl (lv_at hl 4 rfl) ?_
                                  obtain ⟨v179, hvv179, hf⟩ := zt_bd_some hf
                                  refine va_calli (va_runV (As := []) (rest := []) ⟨hx, hb, hml, hown, hts⟩ (m_X9_thrown l G (σ := σ177) hvv179) (cwV 0 hts gL_law_X9_thrown rfl rfl rfl zh_X9_thrown ⟨Nat.le_of_ble_eq_true rfl, Nat.le_of_ble_eq_true rfl⟩) ⟨zt_blind, va_recv hK hP (ci := 8) (q0 := 94) rfl (zt_a8 (rfl : zt_kd 94 = 8)), fun U hU hW => ⟨rfl, zt_go hE hP hS hvac hU hW⟩⟩ rfl rfl hl.1 rfl (lv_room (Nat.le_of_ble_eq_true rfl)) dL_law_1125 ⟨(show (cN + 1) + 0 ≤ 601024 by omega), (show (sN + 6) + 0 ≤ 7293034 by omega)⟩) hS (fun q _ h => hGA q h) (fun q h => hGA q h) (fun r u t H locs ht hvm hw hB _ _ hS => ?_)
                                  rw [hw.1]; have hB : zt_B G u t := hB; rw [hw.2] at hB; have hP := zt_B.P hB ht
                                  refine W.cs (cells' := cN + 1) (slots' := sN + 6) rfl rfl ?_
                                  refine lv_iload hx hb dL_law_1128 (lv_at hl 1 rfl) ?_
                                  refine lv_icmp_eq (tgt := 1135) hx hb dL_law_1130 (by decide) (fun c181 => ?_) (fun c181 => ?_)
                                  · have hf := (if_pos c181).symm.trans hf
                                    refine lv_iload hx hb dL_law_1135 (lv_at hl 1 rfl) ?_
                                    refine lv_if_ne (tgt := 1152) hx hb dL_law_1137 (by decide) (fun c182 => ?_) (fun c182 => ?_)
                                    · have hf := (if_neg c182).symm.trans hf
                                      exact B1152 rc23 hrc23 σ177 u4 _ _ _ j (cN + 1) (sN + 6) hf hj5 (by omega) (by omega) hj4 hP hS (lv_sub hl [2, 3, 4, 5, 6] rfl)
                                    · have hf := (if_pos c182).symm.trans hf
                                      refine lv_aload_n hx hb dL_law_1140 rfl (lv_at hl 5 rfl) ?_
                                      refine lv_iconst (v := 0) hx hb dL_law_1141 (by decide) ?_
                                      refine va_lald hx hb hK hP 122 3 (zt_a12 (k := 122) rfl) rfl (zt_gI_in (show zt_gI 0 1 = true by decide +kernel)) dL_law_1142 ?_
                                      rw [show ((0 : Int32).toNatClampNeg) = 0 from by decide]
                                      refine lv_iload hx hb dL_law_1143 (lv_at hl 0 rfl) ?_
                                      refine lv_i2l (v := (v176 : Int32).toInt64) hx hb dL_law_1145 rfl ?_
                                      refine W.lcmp hx hb dL_law_1146 ?_
                                      refine lv_if_eq (tgt := 1152) hx hb dL_law_1147 (by decide) (fun c183 => ?_) (fun c183 => ?_)
                                      · have hf := (if_pos c183).symm.trans hf
                                        exact B1152 rc23 hrc23 σ177 u4 _ _ _ j (cN + 1) (sN + 6) hf hj5 (by omega) (by omega) hj4 hP hS (lv_sub hl [2, 3, 4, 5, 6] rfl)
                                      · have hf := (if_neg c183).symm.trans hf
                                        refine lv_iconst (v := 0) hx hb dL_law_1150 (by decide) ?_
                                        exact absurd (Option.some.inj hf) (by decide)
                                  · have hf := (if_neg c181).symm.trans hf
                                    refine lv_iconst (v := 0) hx hb dL_law_1133 (by decide) ?_
                                    exact absurd (Option.some.inj hf) (by decide)
                                · have hf := (if_neg c169).symm.trans hf
                                  by_cases c184 : ((xs u4.toNatClampNeg) &&& 31) = 14
                                  · have hf := (if_pos c184).symm.trans hf
                                    refine lv_tableIn (off := 1116) (tgt := 1155) hx hb dL_law_39 (by rw [c184]; decide) (by rw [c184]; decide) (by rw [c184]; rfl) (by decide) ?_
                                    refine lv_aload_n hx hb dL_law_1155 rfl (lv_at hl 1 rfl) ?_
                                    obtain ⟨⟨v185a, σ186a⟩, hvv185, hf⟩ := zt_bd_some hf
                                    obtain ⟨v185, hv185, hf⟩ := zt_lt_some hf; obtain ⟨σ186, hσ186, hf⟩ := zt_lt_some hf; rw [show (v185a, σ186a) = (v185, σ186) from by rw [hv185, hσ186]] at hvv185
                                    refine va_calli (va_runV (As := []) (rest := []) ⟨hx, hb, hml, hown, hts⟩ (m_X8_forget l G (σ := σ) hvv185) (cwV 0 hts gL_law_X8_forget rfl rfl rfl zh_X8_forget ⟨Nat.le_of_ble_eq_true rfl, Nat.le_of_ble_eq_true rfl⟩) ⟨zt_blind, va_recv hK hP (ci := 7) (q0 := 0) rfl (zt_a7 (rfl : zt_kd 0 = 7)), fun U hU hW => ⟨rfl, zt_go hE hP hS hvac hU hW⟩⟩ rfl rfl hl.1 rfl (lv_room (Nat.le_of_ble_eq_true rfl)) dL_law_1156 ⟨(show cN + 0 ≤ 601024 by omega), (show sN + 0 ≤ 7293034 by omega)⟩) hS (fun q _ h => hGA q h) (fun q h => hGA q h) (fun r u t H locs ht hvm hw hB _ _ hS => ?_)
                                    rw [hw.1]; have hB : zt_B G u t := hB; rw [hw.2] at hB; have hP := zt_B.P hB ht
                                    refine W.cs (cells' := cN) (slots' := sN) rfl rfl ?_
                                    refine lv_aload_n hx hb dL_law_1159 rfl (lv_at hl 2 rfl) ?_
                                    obtain ⟨⟨v188a, σ189a⟩, hvv188, hf⟩ := zt_bd_some hf
                                    obtain ⟨v188, hv188, hf⟩ := zt_lt_some hf; obtain ⟨σ189, hσ189, hf⟩ := zt_lt_some hf; rw [show (v188a, σ189a) = (v188, σ189) from by rw [hv188, hσ189]] at hvv188
                                    refine va_calli (va_runV (As := []) (rest := [.int v185]) ⟨hx, hb, hml, hown, hts⟩ (m_X9_forget l G (σ := σ186) hvv188) (cwV 0 hts gL_law_X9_forget rfl rfl rfl zh_X9_forget ⟨Nat.le_of_ble_eq_true rfl, Nat.le_of_ble_eq_true rfl⟩) ⟨zt_blind, va_recv hK hP (ci := 8) (q0 := 94) rfl (zt_a8 (rfl : zt_kd 94 = 8)), fun U hU hW => ⟨rfl, zt_go hE hP hS hvac hU hW⟩⟩ rfl rfl hl.1 rfl (lv_room (Nat.le_of_ble_eq_true rfl)) dL_law_1160 ⟨(show cN + 0 ≤ 601024 by omega), (show sN + 0 ≤ 7293034 by omega)⟩) hS (fun q _ h => hGA q h) (fun q h => hGA q h) (fun r u t H locs ht hvm hw hB _ _ hS => ?_)
                                    rw [hw.1]; have hB : zt_B G u t := hB; rw [hw.2] at hB; have hP := zt_B.P hB ht
                                    refine W.cs (cells' := cN) (slots' := sN) rfl rfl ?_
                                    refine lv_icmp_eq (tgt := 1488) hx hb dL_law_1163 (by decide) (fun c191 => ?_) (fun c191 => ?_)
                                    · have hf := (if_pos c191).symm.trans hf
                                      exact B1488 rc23 hrc23 σ189 u4 _ _ _ j cN sN hf hj5 (by omega) (by omega) hj4 hP hS (lv_sub hl [0, 1, 2, 3, 4] rfl)
                                    · have hf := (if_neg c191).symm.trans hf
                                      refine lv_iconst (v := 0) hx hb dL_law_1166 (by decide) ?_
                                      exact absurd (Option.some.inj hf) (by decide)
                                  · have hf := (if_neg c184).symm.trans hf
                                    by_cases c192 : ((xs u4.toNatClampNeg) &&& 31) = 15
                                    · have hf := (if_pos c192).symm.trans hf
                                      refine lv_tableIn (off := 1129) (tgt := 1168) hx hb dL_law_39 (by rw [c192]; decide) (by rw [c192]; decide) (by rw [c192]; rfl) (by decide) ?_
                                      refine lv_aload_n hx hb dL_law_1168 rfl (lv_at hl 1 rfl) ?_
                                      refine lv_aload_n hx hb dL_law_1169 rfl (lv_at hl 0 rfl) ?_
                                      refine lv_iload hx hb dL_law_1170 (lv_at hl 4 rfl) ?_
                                      refine lv_iconst (v := 1) hx hb dL_law_1172 (by decide) ?_
                                      refine lv_iadd hx hb dL_law_1173 ?_
                                      obtain ⟨g193, hf⟩ := zt_gd_some hf
                                      refine va_sld hx hb hXs hbl hbA hS (zt_gI_in g193) dL_law_1174 ?_
                                      refine lv_aload_n hx hb dL_law_1175 rfl (lv_at hl 3 rfl) ?_
                                      obtain ⟨⟨v194a, σ195a⟩, hvv194, hf⟩ := zt_bd_some hf
                                      obtain ⟨v194, hv194, hf⟩ := zt_lt_some hf; obtain ⟨σ195, hσ195, hf⟩ := zt_lt_some hf; rw [show (v194a, σ195a) = (v194, σ195) from by rw [hv194, hσ195]] at hvv194
                                      have hS2 : va_S (zt_A2 G s.heap.size) s.heap H locs := ⟨hS.1, fun q h1 h2 => hS.2.1 q h1 (fun z => h2 (Or.inr z)), fun q h => Or.inr (hS.2.2 q h)⟩
                                      refine vx_calli (vx_runSX (As := [.ref (zt_ad G 0), .int (xs (u4 + 1).toNatClampNeg), .ref (zt_ad G 122)]) (rest := []) ⟨hx, hb, hml, hown, hts⟩ (m_L_pass l hl2 G (σ := σ) hvv194) (vx_cwSW 3 hts gL_law_L_pass rfl rfl rfl zh_L_pass ⟨Nat.le_of_ble_eq_true rfl, Nat.le_of_ble_eq_true rfl⟩) ⟨zt_blind2, fun U hU hW => ⟨rfl, zt_go2 hE hX hP hS2 hU hW⟩⟩ rfl rfl hl.1 rfl (lv_room (Nat.le_of_ble_eq_true rfl)) dL_law_1176 ⟨(show cN + 1 ≤ 601024 by omega), (show sN + 6 ≤ 7293034 by omega)⟩) hS (fun q h1 h2 => h2.elim (fun z => hGA q z) (fun z => absurd h1 (Nat.not_lt.mpr z))) (fun q h => h.elim (fun z => hGA q z) (fun z => Nat.le_trans hS.1 z)) (fun q h1 h2 => h2.elim (fun z => hGA q z) (fun z => absurd h1 (Nat.not_lt.mpr z))) (fun E ce q9 u t H locs ht hvm hw hB _ _ hS hce hcv hcl => hw.elim) (fun r u t H locs ht hvm hw hB _ _ hS => ?_)
                                      rw [hw.1]; have hB : zt_B G u t := hB; rw [hw.2] at hB; have hP := zt_B.P hB ht
                                      refine W.cs (cells' := cN + 1) (slots' := sN + 6) rfl rfl ?_
                                      refine lv_istore (lv' := [(5, .int v194), (0, .ref b), (1, .ref (zt_ad G 0)), (2, .ref (zt_ad G 94)), (3, .ref (zt_ad G 122)), (4, .int u4)]) hx hb dL_law_1179 hl (by decide) rfl (fun ls hl => ?_)
                                      refine lv_aload_n hx hb dL_law_1181 rfl (lv_at hl 3 rfl) ?_
                                      refine lv_aload_n hx hb dL_law_1182 rfl (lv_at hl 1 rfl) ?_
                                      refine lv_iload hx hb dL_law_1183 (lv_at hl 5 rfl) ?_
                                      refine lv_iconst (v := 1) hx hb dL_law_1185 (by decide) ?_
                                      refine lv_iadd hx hb dL_law_1186 ?_
                                      obtain ⟨g196, hf⟩ := zt_gd_some hf
                                      refine va_sld hx hb hXs hbl hbA hS (zt_gI_in g196) dL_law_1187 ?_
                                      obtain ⟨⟨v197a, σ198a⟩, hvv197, hf⟩ := zt_bd_some hf
                                      obtain ⟨v197, hv197, hf⟩ := zt_lt_some hf; obtain ⟨σ198, hσ198, hf⟩ := zt_lt_some hf; rw [show (v197a, σ198a) = (v197, σ198) from by rw [hv197, hσ198]] at hvv197
                                      refine va_calli (va_runV (As := [.int (xs (u4 + 1).toNatClampNeg)]) (rest := []) ⟨hx, hb, hml, hown, hts⟩ (m_X9_pass l G (σ := σ195) hvv197) (cwV 1 hts gL_law_X9_pass rfl rfl rfl zh_X9_pass ⟨Nat.le_of_ble_eq_true rfl, Nat.le_of_ble_eq_true rfl⟩) ⟨zt_blind, va_recv hK hP (ci := 8) (q0 := 94) rfl (zt_a8 (rfl : zt_kd 94 = 8)), fun U hU hW => ⟨rfl, zt_go hE hP hS hvac hU hW⟩⟩ rfl rfl hl.1 rfl (lv_room (Nat.le_of_ble_eq_true rfl)) dL_law_1188 ⟨(show (cN + 1) + 0 ≤ 601024 by omega), (show (sN + 6) + 0 ≤ 7293034 by omega)⟩) hS (fun q _ h => hGA q h) (fun q h => hGA q h) (fun r u t H locs ht hvm hw hB _ _ hS => ?_)
                                      rw [hw.1]; have hB : zt_B G u t := hB; rw [hw.2] at hB; have hP := zt_B.P hB ht
                                      refine W.cs (cells' := cN + 1) (slots' := sN + 6) rfl rfl ?_
                                      refine lv_istore (lv' := [(6, .int v197), (5, .int v194), (0, .ref b), (1, .ref (zt_ad G 0)), (2, .ref (zt_ad G 94)), (3, .ref (zt_ad G 122)), (4, .int u4)]) hx hb dL_law_1191 hl (by decide) rfl (fun ls hl => ?_)
                                      refine lv_aload_n hx hb dL_law_1193 rfl (lv_at hl 4 rfl) ?_
                                      obtain ⟨v200, hvv200, hf⟩ := zt_bd_some hf
                                      refine va_calli (va_runV (As := []) (rest := []) ⟨hx, hb, hml, hown, hts⟩ (m_X9_thrown l G (σ := σ198) hvv200) (cwV 0 hts gL_law_X9_thrown rfl rfl rfl zh_X9_thrown ⟨Nat.le_of_ble_eq_true rfl, Nat.le_of_ble_eq_true rfl⟩) ⟨zt_blind, va_recv hK hP (ci := 8) (q0 := 94) rfl (zt_a8 (rfl : zt_kd 94 = 8)), fun U hU hW => ⟨rfl, zt_go hE hP hS hvac hU hW⟩⟩ rfl rfl hl.1 rfl (lv_room (Nat.le_of_ble_eq_true rfl)) dL_law_1194 ⟨(show (cN + 1) + 0 ≤ 601024 by omega), (show (sN + 6) + 0 ≤ 7293034 by omega)⟩) hS (fun q _ h => hGA q h) (fun q h => hGA q h) (fun r u t H locs ht hvm hw hB _ _ hS => ?_)
                                      rw [hw.1]; have hB : zt_B G u t := hB; rw [hw.2] at hB; have hP := zt_B.P hB ht
                                      refine W.cs (cells' := cN + 1) (slots' := sN + 6) rfl rfl ?_
                                      refine lv_iload hx hb dL_law_1197 (lv_at hl 1 rfl) ?_
                                      refine lv_icmp_eq (tgt := 1204) hx hb dL_law_1199 (by decide) (fun c202 => ?_) (fun c202 => ?_)
                                      · have hf := (if_pos c202).symm.trans hf
                                        refine lv_iload hx hb dL_law_1204 (lv_at hl 1 rfl) ?_
                                        refine lv_if_ne (tgt := 1221) hx hb dL_law_1206 (by decide) (fun c203 => ?_) (fun c203 => ?_)
                                        · have hf := (if_neg c203).symm.trans hf
                                          exact B1221 rc23 hrc23 σ198 u4 _ _ _ j (cN + 1) (sN + 6) hf hj5 (by omega) (by omega) hj4 hP hS (lv_sub hl [2, 3, 4, 5, 6] rfl)
                                        · have hf := (if_pos c203).symm.trans hf
                                          refine lv_aload_n hx hb dL_law_1209 rfl (lv_at hl 5 rfl) ?_
                                          refine lv_iconst (v := 0) hx hb dL_law_1210 (by decide) ?_
                                          refine va_lald hx hb hK hP 122 3 (zt_a12 (k := 122) rfl) rfl (zt_gI_in (show zt_gI 0 1 = true by decide +kernel)) dL_law_1211 ?_
                                          rw [show ((0 : Int32).toNatClampNeg) = 0 from by decide]
                                          refine lv_iload hx hb dL_law_1212 (lv_at hl 0 rfl) ?_
                                          refine lv_i2l (v := (v197 : Int32).toInt64) hx hb dL_law_1214 rfl ?_
                                          refine W.lcmp hx hb dL_law_1215 ?_
                                          refine lv_if_eq (tgt := 1221) hx hb dL_law_1216 (by decide) (fun c204 => ?_) (fun c204 => ?_)
                                          · have hf := (if_pos c204).symm.trans hf
                                            exact B1221 rc23 hrc23 σ198 u4 _ _ _ j (cN + 1) (sN + 6) hf hj5 (by omega) (by omega) hj4 hP hS (lv_sub hl [2, 3, 4, 5, 6] rfl)
                                          · have hf := (if_neg c204).symm.trans hf
                                            refine lv_iconst (v := 0) hx hb dL_law_1219 (by decide) ?_
                                            exact absurd (Option.some.inj hf) (by decide)
                                      · have hf := (if_neg c202).symm.trans hf
                                        refine lv_iconst (v := 0) hx hb dL_law_1202 (by decide) ?_
                                        exact absurd (Option.some.inj hf) (by decide)
                                    · have hf := (if_neg c192).symm.trans hf
                                      by_cases c205 : ((xs u4.toNatClampNeg) &&& 31) = 16
                                      · have hf := (if_pos c205).symm.trans hf
                                        refine lv_tableIn (off := 1185) (tgt := 1224) hx hb dL_law_39 (by rw [c205]; decide) (by rw [c205]; decide) (by rw [c205]; rfl) (by decide) ?_
                                        refine lv_aload_n hx hb dL_law_1224 rfl (lv_at hl 1 rfl) ?_
                                        refine lv_aload_n hx hb dL_law_1225 rfl (lv_at hl 0 rfl) ?_
                                        refine lv_iload hx hb dL_law_1226 (lv_at hl 4 rfl) ?_
                                        refine lv_iconst (v := 1) hx hb dL_law_1228 (by decide) ?_
                                        refine lv_iadd hx hb dL_law_1229 ?_
                                        obtain ⟨g206, hf⟩ := zt_gd_some hf
                                        refine va_sld hx hb hXs hbl hbA hS (zt_gI_in g206) dL_law_1230 ?_
                                        refine lv_aload_n hx hb dL_law_1231 rfl (lv_at hl 0 rfl) ?_
                                        refine lv_iload hx hb dL_law_1232 (lv_at hl 4 rfl) ?_
                                        refine lv_iconst (v := 2) hx hb dL_law_1234 (by decide) ?_
                                        refine lv_iadd hx hb dL_law_1235 ?_
                                        obtain ⟨g207, hf⟩ := zt_gd_some hf
                                        refine va_sld hx hb hXs hbl hbA hS (zt_gI_in g207) dL_law_1236 ?_
                                        refine lv_aload_n hx hb dL_law_1237 rfl (lv_at hl 0 rfl) ?_
                                        refine lv_iload hx hb dL_law_1238 (lv_at hl 4 rfl) ?_
                                        refine lv_iconst (v := 3) hx hb dL_law_1240 (by decide) ?_
                                        refine lv_iadd hx hb dL_law_1241 ?_
                                        obtain ⟨g208, hf⟩ := zt_gd_some hf
                                        refine va_sld hx hb hXs hbl hbA hS (zt_gI_in g208) dL_law_1242 ?_
                                        refine lv_aload_n hx hb dL_law_1243 rfl (lv_at hl 3 rfl) ?_
                                        obtain ⟨⟨v209a, σ210a⟩, hvv209, hf⟩ := zt_bd_some hf
                                        obtain ⟨v209, hv209, hf⟩ := zt_lt_some hf; obtain ⟨σ210, hσ210, hf⟩ := zt_lt_some hf; rw [show (v209a, σ210a) = (v209, σ210) from by rw [hv209, hσ210]] at hvv209
                                        have hS2 : va_S (zt_A2 G s.heap.size) s.heap H locs := ⟨hS.1, fun q h1 h2 => hS.2.1 q h1 (fun z => h2 (Or.inr z)), fun q h => Or.inr (hS.2.2 q h)⟩
                                        refine vx_calli (vx_runSX (As := [.ref (zt_ad G 0), .int (xs (u4 + 1).toNatClampNeg), .int (xs (u4 + 2).toNatClampNeg), .int (xs (u4 + 3).toNatClampNeg), .ref (zt_ad G 122)]) (rest := []) ⟨hx, hb, hml, hown, hts⟩ (m_L_setKey l hl2 G (σ := σ) hvv209) (vx_cwSW 5 hts gL_law_L_setKey rfl rfl rfl zh_L_setKey ⟨Nat.le_of_ble_eq_true rfl, Nat.le_of_ble_eq_true rfl⟩) ⟨zt_blind2, fun U hU hW => ⟨rfl, zt_go2 hE hX hP hS2 hU hW⟩⟩ rfl rfl hl.1 rfl (lv_room (Nat.le_of_ble_eq_true rfl)) dL_law_1244 ⟨(show cN + 2 ≤ 601024 by omega), (show sN + 12 ≤ 7293034 by omega)⟩) hS (fun q h1 h2 => h2.elim (fun z => hGA q z) (fun z => absurd h1 (Nat.not_lt.mpr z))) (fun q h => h.elim (fun z => hGA q z) (fun z => Nat.le_trans hS.1 z)) (fun q h1 h2 => h2.elim (fun z => hGA q z) (fun z => absurd h1 (Nat.not_lt.mpr z))) (fun E ce q9 u t H locs ht hvm hw hB _ _ hS hce hcv hcl => hw.elim) (fun r u t H locs ht hvm hw hB _ _ hS => ?_)
                                        rw [hw.1]; have hB : zt_B G u t := hB; rw [hw.2] at hB; have hP := zt_B.P hB ht
                                        refine W.cs (cells' := cN + 2) (slots' := sN + 12) rfl rfl ?_
                                        refine lv_istore (lv' := [(5, .int v209), (0, .ref b), (1, .ref (zt_ad G 0)), (2, .ref (zt_ad G 94)), (3, .ref (zt_ad G 122)), (4, .int u4)]) hx hb dL_law_1247 hl (by decide) rfl (fun ls hl => ?_)
                                        refine lv_aload_n hx hb dL_law_1249 rfl (lv_at hl 3 rfl) ?_
                                        refine lv_aload_n hx hb dL_law_1250 rfl (lv_at hl 1 rfl) ?_
                                        refine lv_iload hx hb dL_law_1251 (lv_at hl 5 rfl) ?_
                                        refine lv_iconst (v := 1) hx hb dL_law_1253 (by decide) ?_
                                        refine lv_iadd hx hb dL_law_1254 ?_
                                        obtain ⟨g211, hf⟩ := zt_gd_some hf
                                        refine va_sld hx hb hXs hbl hbA hS (zt_gI_in g211) dL_law_1255 ?_
                                        refine lv_aload_n hx hb dL_law_1256 rfl (lv_at hl 1 rfl) ?_
                                        refine lv_iload hx hb dL_law_1257 (lv_at hl 5 rfl) ?_
                                        refine lv_iconst (v := 2) hx hb dL_law_1259 (by decide) ?_
                                        refine lv_iadd hx hb dL_law_1260 ?_
                                        obtain ⟨g212, hf⟩ := zt_gd_some hf
                                        refine va_sld hx hb hXs hbl hbA hS (zt_gI_in g212) dL_law_1261 ?_
                                        refine lv_aload_n hx hb dL_law_1262 rfl (lv_at hl 1 rfl) ?_
                                        refine lv_iload hx hb dL_law_1263 (lv_at hl 5 rfl) ?_
                                        refine lv_iconst (v := 3) hx hb dL_law_1265 (by decide) ?_
                                        refine lv_iadd hx hb dL_law_1266 ?_
                                        obtain ⟨g213, hf⟩ := zt_gd_some hf
                                        refine va_sld hx hb hXs hbl hbA hS (zt_gI_in g213) dL_law_1267 ?_
                                        obtain ⟨⟨v214a, σ215a⟩, hvv214, hf⟩ := zt_bd_some hf
                                        obtain ⟨v214, hv214, hf⟩ := zt_lt_some hf; obtain ⟨σ215, hσ215, hf⟩ := zt_lt_some hf; rw [show (v214a, σ215a) = (v214, σ215) from by rw [hv214, hσ215]] at hvv214
                                        refine va_calli (va_runV (As := [.int (xs (u4 + 1).toNatClampNeg), .int (xs (u4 + 2).toNatClampNeg), .int (xs (u4 + 3).toNatClampNeg)]) (rest := []) ⟨hx, hb, hml, hown, hts⟩ (m_X9_setKey l G (σ := σ210) hvv214) (cwV 3 hts gL_law_X9_setKey rfl rfl rfl zh_X9_setKey ⟨Nat.le_of_ble_eq_true rfl, Nat.le_of_ble_eq_true rfl⟩) ⟨zt_blind, va_recv hK hP (ci := 8) (q0 := 94) rfl (zt_a8 (rfl : zt_kd 94 = 8)), fun U hU hW => ⟨rfl, zt_go hE hP hS hvac hU hW⟩⟩ rfl rfl hl.1 rfl (lv_room (Nat.le_of_ble_eq_true rfl)) dL_law_1268 ⟨(show (cN + 2) + 0 ≤ 601024 by omega), (show (sN + 12) + 0 ≤ 7293034 by omega)⟩) hS (fun q _ h => hGA q h) (fun q h => hGA q h) (fun r u t H locs ht hvm hw hB _ _ hS => ?_)
                                        rw [hw.1]; have hB : zt_B G u t := hB; rw [hw.2] at hB; have hP := zt_B.P hB ht
                                        refine W.cs (cells' := cN + 2) (slots' := sN + 12) rfl rfl ?_
                                        refine lv_istore (lv' := [(6, .int v214), (5, .int v209), (0, .ref b), (1, .ref (zt_ad G 0)), (2, .ref (zt_ad G 94)), (3, .ref (zt_ad G 122)), (4, .int u4)]) hx hb dL_law_1271 hl (by decide) rfl (fun ls hl => ?_)
                                        refine lv_aload_n hx hb dL_law_1273 rfl (lv_at hl 4 rfl) ?_
                                        obtain ⟨v217, hvv217, hf⟩ := zt_bd_some hf
                                        refine va_calli (va_runV (As := []) (rest := []) ⟨hx, hb, hml, hown, hts⟩ (m_X9_thrown l G (σ := σ215) hvv217) (cwV 0 hts gL_law_X9_thrown rfl rfl rfl zh_X9_thrown ⟨Nat.le_of_ble_eq_true rfl, Nat.le_of_ble_eq_true rfl⟩) ⟨zt_blind, va_recv hK hP (ci := 8) (q0 := 94) rfl (zt_a8 (rfl : zt_kd 94 = 8)), fun U hU hW => ⟨rfl, zt_go hE hP hS hvac hU hW⟩⟩ rfl rfl hl.1 rfl (lv_room (Nat.le_of_ble_eq_true rfl)) dL_law_1274 ⟨(show (cN + 2) + 0 ≤ 601024 by omega), (show (sN + 12) + 0 ≤ 7293034 by omega)⟩) hS (fun q _ h => hGA q h) (fun q h => hGA q h) (fun r u t H locs ht hvm hw hB _ _ hS => ?_)
                                        rw [hw.1]; have hB : zt_B G u t := hB; rw [hw.2] at hB; have hP := zt_B.P hB ht
                                        refine W.cs (cells' := cN + 2) (slots' := sN + 12) rfl rfl ?_
                                        refine lv_iload hx hb dL_law_1277 (lv_at hl 1 rfl) ?_
                                        refine lv_icmp_eq (tgt := 1284) hx hb dL_law_1279 (by decide) (fun c219 => ?_) (fun c219 => ?_)
                                        · have hf := (if_pos c219).symm.trans hf
                                          refine lv_iload hx hb dL_law_1284 (lv_at hl 1 rfl) ?_
                                          refine lv_if_ne (tgt := 1301) hx hb dL_law_1286 (by decide) (fun c220 => ?_) (fun c220 => ?_)
                                          · have hf := (if_neg c220).symm.trans hf
                                            exact B1301 rc23 hrc23 σ215 u4 _ _ _ j (cN + 2) (sN + 12) hf hj5 (by omega) (by omega) hj4 hP hS (lv_sub hl [2, 3, 4, 5, 6] rfl)
                                          · have hf := (if_pos c220).symm.trans hf
                                            refine lv_aload_n hx hb dL_law_1289 rfl (lv_at hl 5 rfl) ?_
                                            refine lv_iconst (v := 0) hx hb dL_law_1290 (by decide) ?_
                                            refine va_lald hx hb hK hP 122 3 (zt_a12 (k := 122) rfl) rfl (zt_gI_in (show zt_gI 0 1 = true by decide +kernel)) dL_law_1291 ?_
                                            rw [show ((0 : Int32).toNatClampNeg) = 0 from by decide]
                                            refine lv_iload hx hb dL_law_1292 (lv_at hl 0 rfl) ?_
                                            refine lv_i2l (v := (v214 : Int32).toInt64) hx hb dL_law_1294 rfl ?_
                                            refine W.lcmp hx hb dL_law_1295 ?_
                                            refine lv_if_eq (tgt := 1301) hx hb dL_law_1296 (by decide) (fun c221 => ?_) (fun c221 => ?_)
                                            · have hf := (if_pos c221).symm.trans hf
                                              exact B1301 rc23 hrc23 σ215 u4 _ _ _ j (cN + 2) (sN + 12) hf hj5 (by omega) (by omega) hj4 hP hS (lv_sub hl [2, 3, 4, 5, 6] rfl)
                                            · have hf := (if_neg c221).symm.trans hf
                                              refine lv_iconst (v := 0) hx hb dL_law_1299 (by decide) ?_
                                              exact absurd (Option.some.inj hf) (by decide)
                                        · have hf := (if_neg c219).symm.trans hf
                                          refine lv_iconst (v := 0) hx hb dL_law_1282 (by decide) ?_
                                          exact absurd (Option.some.inj hf) (by decide)
                                      · have hf := (if_neg c205).symm.trans hf
                                        by_cases c222 : ((xs u4.toNatClampNeg) &&& 31) = 17
                                        · have hf := (if_pos c222).symm.trans hf
                                          refine lv_tableIn (off := 1265) (tgt := 1304) hx hb dL_law_39 (by rw [c222]; decide) (by rw [c222]; decide) (by rw [c222]; rfl) (by decide) ?_
                                          refine lv_aload_n hx hb dL_law_1304 rfl (lv_at hl 1 rfl) ?_
                                          refine lv_aload_n hx hb dL_law_1305 rfl (lv_at hl 0 rfl) ?_
                                          refine lv_iload hx hb dL_law_1306 (lv_at hl 4 rfl) ?_
                                          refine lv_iconst (v := 1) hx hb dL_law_1308 (by decide) ?_
                                          refine lv_iadd hx hb dL_law_1309 ?_
                                          obtain ⟨g223, hf⟩ := zt_gd_some hf
                                          refine va_sld hx hb hXs hbl hbA hS (zt_gI_in g223) dL_law_1310 ?_
                                          refine lv_aload_n hx hb dL_law_1311 rfl (lv_at hl 0 rfl) ?_
                                          refine lv_iload hx hb dL_law_1312 (lv_at hl 4 rfl) ?_
                                          refine lv_iconst (v := 2) hx hb dL_law_1314 (by decide) ?_
                                          refine lv_iadd hx hb dL_law_1315 ?_
                                          obtain ⟨g224, hf⟩ := zt_gd_some hf
                                          refine va_sld hx hb hXs hbl hbA hS (zt_gI_in g224) dL_law_1316 ?_
                                          refine lv_aload_n hx hb dL_law_1317 rfl (lv_at hl 0 rfl) ?_
                                          refine lv_iload hx hb dL_law_1318 (lv_at hl 4 rfl) ?_
                                          refine lv_iconst (v := 3) hx hb dL_law_1320 (by decide) ?_
                                          refine lv_iadd hx hb dL_law_1321 ?_
                                          obtain ⟨g225, hf⟩ := zt_gd_some hf
                                          refine va_sld hx hb hXs hbl hbA hS (zt_gI_in g225) dL_law_1322 ?_
                                          obtain ⟨⟨v226a, σ227a⟩, hvv226, hf⟩ := zt_bd_some hf
                                          obtain ⟨v226, hv226, hf⟩ := zt_lt_some hf; obtain ⟨σ227, hσ227, hf⟩ := zt_lt_some hf; rw [show (v226a, σ227a) = (v226, σ227) from by rw [hv226, hσ227]] at hvv226
                                          have hS2 : va_S (zt_A2 G s.heap.size) s.heap H locs := ⟨hS.1, fun q h1 h2 => hS.2.1 q h1 (fun z => h2 (Or.inr z)), fun q h => Or.inr (hS.2.2 q h)⟩
                                          refine vx_calli (vx_runSX (As := [.ref (zt_ad G 0), .int (xs (u4 + 1).toNatClampNeg), .int (xs (u4 + 2).toNatClampNeg), .int (xs (u4 + 3).toNatClampNeg)]) (rest := []) ⟨hx, hb, hml, hown, hts⟩ (m_L_setWindow l hl2 G (σ := σ) hvv226) (vx_cwSW 4 hts gL_law_L_setWindow rfl rfl rfl zh_L_setWindow ⟨Nat.le_of_ble_eq_true rfl, Nat.le_of_ble_eq_true rfl⟩) ⟨zt_blind2, fun U hU hW => ⟨rfl, zt_go2 hE hX hP hS2 hU hW⟩⟩ rfl rfl hl.1 rfl (lv_room (Nat.le_of_ble_eq_true rfl)) dL_law_1323 ⟨(show cN + 2 ≤ 601024 by omega), (show sN + 12 ≤ 7293034 by omega)⟩) hS (fun q h1 h2 => h2.elim (fun z => hGA q z) (fun z => absurd h1 (Nat.not_lt.mpr z))) (fun q h => h.elim (fun z => hGA q z) (fun z => Nat.le_trans hS.1 z)) (fun q h1 h2 => h2.elim (fun z => hGA q z) (fun z => absurd h1 (Nat.not_lt.mpr z))) (fun E ce q9 u t H locs ht hvm hw hB _ _ hS hce hcv hcl => hw.elim) (fun r u t H locs ht hvm hw hB _ _ hS => ?_)
                                          rw [hw.1]; have hB : zt_B G u t := hB; rw [hw.2] at hB; have hP := zt_B.P hB ht
                                          refine W.cs (cells' := cN + 2) (slots' := sN + 12) rfl rfl ?_
                                          refine lv_istore (lv' := [(5, .int v226), (0, .ref b), (1, .ref (zt_ad G 0)), (2, .ref (zt_ad G 94)), (3, .ref (zt_ad G 122)), (4, .int u4)]) hx hb dL_law_1326 hl (by decide) rfl (fun ls hl => ?_)
                                          refine lv_aload_n hx hb dL_law_1328 rfl (lv_at hl 3 rfl) ?_
                                          refine lv_aload_n hx hb dL_law_1329 rfl (lv_at hl 1 rfl) ?_
                                          refine lv_iload hx hb dL_law_1330 (lv_at hl 5 rfl) ?_
                                          refine lv_iconst (v := 1) hx hb dL_law_1332 (by decide) ?_
                                          refine lv_iadd hx hb dL_law_1333 ?_
                                          obtain ⟨g228, hf⟩ := zt_gd_some hf
                                          refine va_sld hx hb hXs hbl hbA hS (zt_gI_in g228) dL_law_1334 ?_
                                          refine lv_aload_n hx hb dL_law_1335 rfl (lv_at hl 1 rfl) ?_
                                          refine lv_iload hx hb dL_law_1336 (lv_at hl 5 rfl) ?_
                                          refine lv_iconst (v := 2) hx hb dL_law_1338 (by decide) ?_
                                          refine lv_iadd hx hb dL_law_1339 ?_
                                          obtain ⟨g229, hf⟩ := zt_gd_some hf
                                          refine va_sld hx hb hXs hbl hbA hS (zt_gI_in g229) dL_law_1340 ?_
                                          refine lv_aload_n hx hb dL_law_1341 rfl (lv_at hl 1 rfl) ?_
                                          refine lv_iload hx hb dL_law_1342 (lv_at hl 5 rfl) ?_
                                          refine lv_iconst (v := 3) hx hb dL_law_1344 (by decide) ?_
                                          refine lv_iadd hx hb dL_law_1345 ?_
                                          obtain ⟨g230, hf⟩ := zt_gd_some hf
                                          refine va_sld hx hb hXs hbl hbA hS (zt_gI_in g230) dL_law_1346 ?_
                                          obtain ⟨σ232, hvv231, hf⟩ := zt_bd_some hf
                                          refine va_callv (va_runV (As := [.int (xs (u4 + 1).toNatClampNeg), .int (xs (u4 + 2).toNatClampNeg), .int (xs (u4 + 3).toNatClampNeg)]) (rest := []) ⟨hx, hb, hml, hown, hts⟩ (m_X9_setWindow l G (σ := σ227) hvv231) (cwV 3 hts gL_law_X9_setWindow rfl rfl rfl zh_X9_setWindow ⟨Nat.le_of_ble_eq_true rfl, Nat.le_of_ble_eq_true rfl⟩) ⟨zt_blind, va_recv hK hP (ci := 8) (q0 := 94) rfl (zt_a8 (rfl : zt_kd 94 = 8)), fun U hU hW => ⟨rfl, zt_go hE hP hS hvac hU hW⟩⟩ rfl rfl hl.1 rfl (lv_room (Nat.le_of_ble_eq_true rfl)) dL_law_1347 ⟨(show (cN + 2) + 0 ≤ 601024 by omega), (show (sN + 12) + 0 ≤ 7293034 by omega)⟩) hS (fun q _ h => hGA q h) (fun q h => hGA q h) (fun u t H locs ht hvm hw hB _ _ hS => ?_)
                                          have hB : zt_B G u t := hB; rw [hw] at hB; have hP := zt_B.P hB ht
                                          refine W.cs (cells' := cN + 2) (slots' := sN + 12) rfl rfl ?_
                                          refine lv_aload_n hx hb dL_law_1350 rfl (lv_at hl 3 rfl) ?_
                                          obtain ⟨v233, hvv233, hf⟩ := zt_bd_some hf
                                          refine va_calli (va_runV (As := []) (rest := []) ⟨hx, hb, hml, hown, hts⟩ (m_X9_thrown l G (σ := σ232) hvv233) (cwV 0 hts gL_law_X9_thrown rfl rfl rfl zh_X9_thrown ⟨Nat.le_of_ble_eq_true rfl, Nat.le_of_ble_eq_true rfl⟩) ⟨zt_blind, va_recv hK hP (ci := 8) (q0 := 94) rfl (zt_a8 (rfl : zt_kd 94 = 8)), fun U hU hW => ⟨rfl, zt_go hE hP hS hvac hU hW⟩⟩ rfl rfl hl.1 rfl (lv_room (Nat.le_of_ble_eq_true rfl)) dL_law_1351 ⟨(show (cN + 2) + 0 ≤ 601024 by omega), (show (sN + 12) + 0 ≤ 7293034 by omega)⟩) hS (fun q _ h => hGA q h) (fun q h => hGA q h) (fun r u t H locs ht hvm hw hB _ _ hS => ?_)
                                          rw [hw.1]; have hB : zt_B G u t := hB; rw [hw.2] at hB; have hP := zt_B.P hB ht
                                          refine W.cs (cells' := cN + 2) (slots' := sN + 12) rfl rfl ?_
                                          refine lv_iload hx hb dL_law_1354 (lv_at hl 0 rfl) ?_
                                          refine lv_icmp_eq (tgt := 1361) hx hb dL_law_1356 (by decide) (fun c235 => ?_) (fun c235 => ?_)
                                          · have hf := (if_pos c235).symm.trans hf
                                            refine lv_goto (tgt := 1488) hx hb dL_law_1361 (by decide) ?_
                                            exact B1488 rc23 hrc23 σ232 u4 _ _ _ j (cN + 2) (sN + 12) hf hj5 (by omega) (by omega) hj4 hP hS (lv_sub hl [1, 2, 3, 4, 5] rfl)
                                          · have hf := (if_neg c235).symm.trans hf
                                            refine lv_iconst (v := 0) hx hb dL_law_1359 (by decide) ?_
                                            exact absurd (Option.some.inj hf) (by decide)
                                        · have hf := (if_neg c222).symm.trans hf
                                          by_cases c236 : ((xs u4.toNatClampNeg) &&& 31) = 18
                                          · have hf := (if_pos c236).symm.trans hf
                                            refine lv_tableIn (off := 1325) (tgt := 1364) hx hb dL_law_39 (by rw [c236]; decide) (by rw [c236]; decide) (by rw [c236]; rfl) (by decide) ?_
                                            refine lv_aload_n hx hb dL_law_1364 rfl (lv_at hl 1 rfl) ?_
                                            refine lv_aload_n hx hb dL_law_1365 rfl (lv_at hl 0 rfl) ?_
                                            refine lv_iload hx hb dL_law_1366 (lv_at hl 4 rfl) ?_
                                            refine lv_iconst (v := 1) hx hb dL_law_1368 (by decide) ?_
                                            refine lv_iadd hx hb dL_law_1369 ?_
                                            obtain ⟨g237, hf⟩ := zt_gd_some hf
                                            refine va_sld hx hb hXs hbl hbA hS (zt_gI_in g237) dL_law_1370 ?_
                                            refine lv_aload_n hx hb dL_law_1371 rfl (lv_at hl 3 rfl) ?_
                                            obtain ⟨⟨v238a, σ239a⟩, hvv238, hf⟩ := zt_bd_some hf
                                            obtain ⟨v238, hv238, hf⟩ := zt_lt_some hf; obtain ⟨σ239, hσ239, hf⟩ := zt_lt_some hf; rw [show (v238a, σ239a) = (v238, σ239) from by rw [hv238, hσ239]] at hvv238
                                            have hS2 : va_S (zt_A2 G s.heap.size) s.heap H locs := ⟨hS.1, fun q h1 h2 => hS.2.1 q h1 (fun z => h2 (Or.inr z)), fun q h => Or.inr (hS.2.2 q h)⟩
                                            refine vx_calli (vx_runSX (As := [.ref (zt_ad G 0), .int (xs (u4 + 1).toNatClampNeg), .ref (zt_ad G 122)]) (rest := []) ⟨hx, hb, hml, hown, hts⟩ (m_L_setAnchor l hl2 G (σ := σ) hvv238) (vx_cwSW 3 hts gL_law_L_setAnchor rfl rfl rfl zh_L_setAnchor ⟨Nat.le_of_ble_eq_true rfl, Nat.le_of_ble_eq_true rfl⟩) ⟨zt_blind2, fun U hU hW => ⟨rfl, zt_go2 hE hX hP hS2 hU hW⟩⟩ rfl rfl hl.1 rfl (lv_room (Nat.le_of_ble_eq_true rfl)) dL_law_1372 ⟨(show cN + 1 ≤ 601024 by omega), (show sN + 6 ≤ 7293034 by omega)⟩) hS (fun q h1 h2 => h2.elim (fun z => hGA q z) (fun z => absurd h1 (Nat.not_lt.mpr z))) (fun q h => h.elim (fun z => hGA q z) (fun z => Nat.le_trans hS.1 z)) (fun q h1 h2 => h2.elim (fun z => hGA q z) (fun z => absurd h1 (Nat.not_lt.mpr z))) (fun E ce q9 u t H locs ht hvm hw hB _ _ hS hce hcv hcl => hw.elim) (fun r u t H locs ht hvm hw hB _ _ hS => ?_)
                                            rw [hw.1]; have hB : zt_B G u t := hB; rw [hw.2] at hB; have hP := zt_B.P hB ht
                                            refine W.cs (cells' := cN + 1) (slots' := sN + 6) rfl rfl ?_
                                            refine lv_istore (lv' := [(5, .int v238), (0, .ref b), (1, .ref (zt_ad G 0)), (2, .ref (zt_ad G 94)), (3, .ref (zt_ad G 122)), (4, .int u4)]) hx hb dL_law_1375 hl (by decide) rfl (fun ls hl => ?_)
                                            refine lv_aload_n hx hb dL_law_1377 rfl (lv_at hl 3 rfl) ?_
                                            refine lv_aload_n hx hb dL_law_1378 rfl (lv_at hl 1 rfl) ?_
                                            refine lv_iload hx hb dL_law_1379 (lv_at hl 5 rfl) ?_
                                            refine lv_iconst (v := 1) hx hb dL_law_1381 (by decide) ?_
                                            refine lv_iadd hx hb dL_law_1382 ?_
                                            obtain ⟨g240, hf⟩ := zt_gd_some hf
                                            refine va_sld hx hb hXs hbl hbA hS (zt_gI_in g240) dL_law_1383 ?_
                                            obtain ⟨⟨v241a, σ242a⟩, hvv241, hf⟩ := zt_bd_some hf
                                            obtain ⟨v241, hv241, hf⟩ := zt_lt_some hf; obtain ⟨σ242, hσ242, hf⟩ := zt_lt_some hf; rw [show (v241a, σ242a) = (v241, σ242) from by rw [hv241, hσ242]] at hvv241
                                            refine va_calli (va_runV (As := [.int (xs (u4 + 1).toNatClampNeg)]) (rest := []) ⟨hx, hb, hml, hown, hts⟩ (m_X9_setAnchor l G (σ := σ239) hvv241) (cwV 1 hts gL_law_X9_setAnchor rfl rfl rfl zh_X9_setAnchor ⟨Nat.le_of_ble_eq_true rfl, Nat.le_of_ble_eq_true rfl⟩) ⟨zt_blind, va_recv hK hP (ci := 8) (q0 := 94) rfl (zt_a8 (rfl : zt_kd 94 = 8)), fun U hU hW => ⟨rfl, zt_go hE hP hS hvac hU hW⟩⟩ rfl rfl hl.1 rfl (lv_room (Nat.le_of_ble_eq_true rfl)) dL_law_1384 ⟨(show (cN + 1) + 0 ≤ 601024 by omega), (show (sN + 6) + 0 ≤ 7293034 by omega)⟩) hS (fun q _ h => hGA q h) (fun q h => hGA q h) (fun r u t H locs ht hvm hw hB _ _ hS => ?_)
                                            rw [hw.1]; have hB : zt_B G u t := hB; rw [hw.2] at hB; have hP := zt_B.P hB ht
                                            refine W.cs (cells' := cN + 1) (slots' := sN + 6) rfl rfl ?_
                                            refine lv_istore (lv' := [(6, .int v241), (5, .int v238), (0, .ref b), (1, .ref (zt_ad G 0)), (2, .ref (zt_ad G 94)), (3, .ref (zt_ad G 122)), (4, .int u4)]) hx hb dL_law_1387 hl (by decide) rfl (fun ls hl => ?_)
                                            refine lv_aload_n hx hb dL_law_1389 rfl (lv_at hl 4 rfl) ?_
                                            obtain ⟨v244, hvv244, hf⟩ := zt_bd_some hf
                                            refine va_calli (va_runV (As := []) (rest := []) ⟨hx, hb, hml, hown, hts⟩ (m_X9_thrown l G (σ := σ242) hvv244) (cwV 0 hts gL_law_X9_thrown rfl rfl rfl zh_X9_thrown ⟨Nat.le_of_ble_eq_true rfl, Nat.le_of_ble_eq_true rfl⟩) ⟨zt_blind, va_recv hK hP (ci := 8) (q0 := 94) rfl (zt_a8 (rfl : zt_kd 94 = 8)), fun U hU hW => ⟨rfl, zt_go hE hP hS hvac hU hW⟩⟩ rfl rfl hl.1 rfl (lv_room (Nat.le_of_ble_eq_true rfl)) dL_law_1390 ⟨(show (cN + 1) + 0 ≤ 601024 by omega), (show (sN + 6) + 0 ≤ 7293034 by omega)⟩) hS (fun q _ h => hGA q h) (fun q h => hGA q h) (fun r u t H locs ht hvm hw hB _ _ hS => ?_)
                                            rw [hw.1]; have hB : zt_B G u t := hB; rw [hw.2] at hB; have hP := zt_B.P hB ht
                                            refine W.cs (cells' := cN + 1) (slots' := sN + 6) rfl rfl ?_
                                            refine lv_iload hx hb dL_law_1393 (lv_at hl 1 rfl) ?_
                                            refine lv_icmp_eq (tgt := 1400) hx hb dL_law_1395 (by decide) (fun c246 => ?_) (fun c246 => ?_)
                                            · have hf := (if_pos c246).symm.trans hf
                                              refine lv_iload hx hb dL_law_1400 (lv_at hl 1 rfl) ?_
                                              refine lv_if_ne (tgt := 1417) hx hb dL_law_1402 (by decide) (fun c247 => ?_) (fun c247 => ?_)
                                              · have hf := (if_neg c247).symm.trans hf
                                                exact B1417 rc23 hrc23 σ242 u4 _ _ _ j (cN + 1) (sN + 6) hf hj5 (by omega) (by omega) hj4 hP hS (lv_sub hl [2, 3, 4, 5, 6] rfl)
                                              · have hf := (if_pos c247).symm.trans hf
                                                refine lv_aload_n hx hb dL_law_1405 rfl (lv_at hl 5 rfl) ?_
                                                refine lv_iconst (v := 0) hx hb dL_law_1406 (by decide) ?_
                                                refine va_lald hx hb hK hP 122 3 (zt_a12 (k := 122) rfl) rfl (zt_gI_in (show zt_gI 0 1 = true by decide +kernel)) dL_law_1407 ?_
                                                rw [show ((0 : Int32).toNatClampNeg) = 0 from by decide]
                                                refine lv_iload hx hb dL_law_1408 (lv_at hl 0 rfl) ?_
                                                refine lv_i2l (v := (v241 : Int32).toInt64) hx hb dL_law_1410 rfl ?_
                                                refine W.lcmp hx hb dL_law_1411 ?_
                                                refine lv_if_eq (tgt := 1417) hx hb dL_law_1412 (by decide) (fun c248 => ?_) (fun c248 => ?_)
                                                · have hf := (if_pos c248).symm.trans hf
                                                  exact B1417 rc23 hrc23 σ242 u4 _ _ _ j (cN + 1) (sN + 6) hf hj5 (by omega) (by omega) hj4 hP hS (lv_sub hl [2, 3, 4, 5, 6] rfl)
                                                · have hf := (if_neg c248).symm.trans hf
                                                  refine lv_iconst (v := 0) hx hb dL_law_1415 (by decide) ?_
                                                  exact absurd (Option.some.inj hf) (by decide)
                                            · have hf := (if_neg c246).symm.trans hf
                                              refine lv_iconst (v := 0) hx hb dL_law_1398 (by decide) ?_
                                              exact absurd (Option.some.inj hf) (by decide)
                                          · have hf := (if_neg c236).symm.trans hf
                                            by_cases c249 : ((xs u4.toNatClampNeg) &&& 31) = 19
                                            · have hf := (if_pos c249).symm.trans hf
                                              refine lv_tableIn (off := 1381) (tgt := 1420) hx hb dL_law_39 (by rw [c249]; decide) (by rw [c249]; decide) (by rw [c249]; rfl) (by decide) ?_
                                              refine lv_aload_n hx hb dL_law_1420 rfl (lv_at hl 1 rfl) ?_
                                              refine lv_aload_n hx hb dL_law_1421 rfl (lv_at hl 0 rfl) ?_
                                              refine lv_iload hx hb dL_law_1422 (lv_at hl 4 rfl) ?_
                                              refine lv_iconst (v := 1) hx hb dL_law_1424 (by decide) ?_
                                              refine lv_iadd hx hb dL_law_1425 ?_
                                              obtain ⟨g250, hf⟩ := zt_gd_some hf
                                              refine va_sld hx hb hXs hbl hbA hS (zt_gI_in g250) dL_law_1426 ?_
                                              refine lv_aload_n hx hb dL_law_1427 rfl (lv_at hl 0 rfl) ?_
                                              refine lv_iload hx hb dL_law_1428 (lv_at hl 4 rfl) ?_
                                              refine lv_iconst (v := 2) hx hb dL_law_1430 (by decide) ?_
                                              refine lv_iadd hx hb dL_law_1431 ?_
                                              obtain ⟨g251, hf⟩ := zt_gd_some hf
                                              refine va_sld hx hb hXs hbl hbA hS (zt_gI_in g251) dL_law_1432 ?_
                                              refine lv_aload_n hx hb dL_law_1433 rfl (lv_at hl 3 rfl) ?_
                                              obtain ⟨⟨v252a, σ253a⟩, hvv252, hf⟩ := zt_bd_some hf
                                              obtain ⟨v252, hv252, hf⟩ := zt_lt_some hf; obtain ⟨σ253, hσ253, hf⟩ := zt_lt_some hf; rw [show (v252a, σ253a) = (v252, σ253) from by rw [hv252, hσ253]] at hvv252
                                              have hS2 : va_S (zt_A2 G s.heap.size) s.heap H locs := ⟨hS.1, fun q h1 h2 => hS.2.1 q h1 (fun z => h2 (Or.inr z)), fun q h => Or.inr (hS.2.2 q h)⟩
                                              refine vx_calli (vx_runSX (As := [.ref (zt_ad G 0), .int (xs (u4 + 1).toNatClampNeg), .int (xs (u4 + 2).toNatClampNeg), .ref (zt_ad G 122)]) (rest := []) ⟨hx, hb, hml, hown, hts⟩ (m_L_trust l hl2 G (σ := σ) hvv252) (vx_cwSW 4 hts gL_law_L_trust rfl rfl rfl zh_L_trust ⟨Nat.le_of_ble_eq_true rfl, Nat.le_of_ble_eq_true rfl⟩) ⟨zt_blind2, fun U hU hW => ⟨rfl, zt_go2 hE hX hP hS2 hU hW⟩⟩ rfl rfl hl.1 rfl (lv_room (Nat.le_of_ble_eq_true rfl)) dL_law_1434 ⟨(show cN + 1 ≤ 601024 by omega), (show sN + 6 ≤ 7293034 by omega)⟩) hS (fun q h1 h2 => h2.elim (fun z => hGA q z) (fun z => absurd h1 (Nat.not_lt.mpr z))) (fun q h => h.elim (fun z => hGA q z) (fun z => Nat.le_trans hS.1 z)) (fun q h1 h2 => h2.elim (fun z => hGA q z) (fun z => absurd h1 (Nat.not_lt.mpr z))) (fun E ce q9 u t H locs ht hvm hw hB _ _ hS hce hcv hcl => hw.elim) (fun r u t H locs ht hvm hw hB _ _ hS => ?_)
                                              rw [hw.1]; have hB : zt_B G u t := hB; rw [hw.2] at hB; have hP := zt_B.P hB ht
                                              refine W.cs (cells' := cN + 1) (slots' := sN + 6) rfl rfl ?_
                                              refine lv_istore (lv' := [(5, .int v252), (0, .ref b), (1, .ref (zt_ad G 0)), (2, .ref (zt_ad G 94)), (3, .ref (zt_ad G 122)), (4, .int u4)]) hx hb dL_law_1437 hl (by decide) rfl (fun ls hl => ?_)
                                              refine lv_aload_n hx hb dL_law_1439 rfl (lv_at hl 3 rfl) ?_
                                              refine lv_aload_n hx hb dL_law_1440 rfl (lv_at hl 1 rfl) ?_
                                              refine lv_iload hx hb dL_law_1441 (lv_at hl 5 rfl) ?_
                                              refine lv_iconst (v := 1) hx hb dL_law_1443 (by decide) ?_
                                              refine lv_iadd hx hb dL_law_1444 ?_
                                              obtain ⟨g254, hf⟩ := zt_gd_some hf
                                              refine va_sld hx hb hXs hbl hbA hS (zt_gI_in g254) dL_law_1445 ?_
                                              refine lv_aload_n hx hb dL_law_1446 rfl (lv_at hl 1 rfl) ?_
                                              refine lv_iload hx hb dL_law_1447 (lv_at hl 5 rfl) ?_
                                              refine lv_iconst (v := 2) hx hb dL_law_1449 (by decide) ?_
                                              refine lv_iadd hx hb dL_law_1450 ?_
                                              obtain ⟨g255, hf⟩ := zt_gd_some hf
                                              refine va_sld hx hb hXs hbl hbA hS (zt_gI_in g255) dL_law_1451 ?_
                                              obtain ⟨⟨v256a, σ257a⟩, hvv256, hf⟩ := zt_bd_some hf
                                              obtain ⟨v256, hv256, hf⟩ := zt_lt_some hf; obtain ⟨σ257, hσ257, hf⟩ := zt_lt_some hf; rw [show (v256a, σ257a) = (v256, σ257) from by rw [hv256, hσ257]] at hvv256
                                              refine va_calli (va_runV (As := [.int (xs (u4 + 1).toNatClampNeg), .int (xs (u4 + 2).toNatClampNeg)]) (rest := []) ⟨hx, hb, hml, hown, hts⟩ (m_X9_trust l G (σ := σ253) hvv256) (cwV 2 hts gL_law_X9_trust rfl rfl rfl zh_X9_trust ⟨Nat.le_of_ble_eq_true rfl, Nat.le_of_ble_eq_true rfl⟩) ⟨zt_blind, va_recv hK hP (ci := 8) (q0 := 94) rfl (zt_a8 (rfl : zt_kd 94 = 8)), fun U hU hW => ⟨rfl, zt_go hE hP hS hvac hU hW⟩⟩ rfl rfl hl.1 rfl (lv_room (Nat.le_of_ble_eq_true rfl)) dL_law_1452 ⟨(show (cN + 1) + 0 ≤ 601024 by omega), (show (sN + 6) + 0 ≤ 7293034 by omega)⟩) hS (fun q _ h => hGA q h) (fun q h => hGA q h) (fun r u t H locs ht hvm hw hB _ _ hS => ?_)
                                              rw [hw.1]; have hB : zt_B G u t := hB; rw [hw.2] at hB; have hP := zt_B.P hB ht
                                              refine W.cs (cells' := cN + 1) (slots' := sN + 6) rfl rfl ?_
                                              refine lv_istore (lv' := [(6, .int v256), (5, .int v252), (0, .ref b), (1, .ref (zt_ad G 0)), (2, .ref (zt_ad G 94)), (3, .ref (zt_ad G 122)), (4, .int u4)]) hx hb dL_law_1455 hl (by decide) rfl (fun ls hl => ?_)
                                              refine lv_aload_n hx hb dL_law_1457 rfl (lv_at hl 4 rfl) ?_
                                              obtain ⟨v259, hvv259, hf⟩ := zt_bd_some hf
                                              refine va_calli (va_runV (As := []) (rest := []) ⟨hx, hb, hml, hown, hts⟩ (m_X9_thrown l G (σ := σ257) hvv259) (cwV 0 hts gL_law_X9_thrown rfl rfl rfl zh_X9_thrown ⟨Nat.le_of_ble_eq_true rfl, Nat.le_of_ble_eq_true rfl⟩) ⟨zt_blind, va_recv hK hP (ci := 8) (q0 := 94) rfl (zt_a8 (rfl : zt_kd 94 = 8)), fun U hU hW => ⟨rfl, zt_go hE hP hS hvac hU hW⟩⟩ rfl rfl hl.1 rfl (lv_room (Nat.le_of_ble_eq_true rfl)) dL_law_1458 ⟨(show (cN + 1) + 0 ≤ 601024 by omega), (show (sN + 6) + 0 ≤ 7293034 by omega)⟩) hS (fun q _ h => hGA q h) (fun q h => hGA q h) (fun r u t H locs ht hvm hw hB _ _ hS => ?_)
                                              rw [hw.1]; have hB : zt_B G u t := hB; rw [hw.2] at hB; have hP := zt_B.P hB ht
                                              refine W.cs (cells' := cN + 1) (slots' := sN + 6) rfl rfl ?_
                                              refine lv_iload hx hb dL_law_1461 (lv_at hl 1 rfl) ?_
                                              refine lv_icmp_eq (tgt := 1468) hx hb dL_law_1463 (by decide) (fun c261 => ?_) (fun c261 => ?_)
                                              · have hf := (if_pos c261).symm.trans hf
                                                refine lv_iload hx hb dL_law_1468 (lv_at hl 1 rfl) ?_
                                                refine lv_if_ne (tgt := 1485) hx hb dL_law_1470 (by decide) (fun c262 => ?_) (fun c262 => ?_)
                                                · have hf := (if_neg c262).symm.trans hf
                                                  exact B1485 rc23 hrc23 σ257 u4 _ _ _ j (cN + 1) (sN + 6) hf hj5 (by omega) (by omega) hj4 hP hS (lv_sub hl [2, 3, 4, 5, 6] rfl)
                                                · have hf := (if_pos c262).symm.trans hf
                                                  refine lv_aload_n hx hb dL_law_1473 rfl (lv_at hl 5 rfl) ?_
                                                  refine lv_iconst (v := 0) hx hb dL_law_1474 (by decide) ?_
                                                  refine va_lald hx hb hK hP 122 3 (zt_a12 (k := 122) rfl) rfl (zt_gI_in (show zt_gI 0 1 = true by decide +kernel)) dL_law_1475 ?_
                                                  rw [show ((0 : Int32).toNatClampNeg) = 0 from by decide]
                                                  refine lv_iload hx hb dL_law_1476 (lv_at hl 0 rfl) ?_
                                                  refine lv_i2l (v := (v256 : Int32).toInt64) hx hb dL_law_1478 rfl ?_
                                                  refine W.lcmp hx hb dL_law_1479 ?_
                                                  refine lv_if_eq (tgt := 1485) hx hb dL_law_1480 (by decide) (fun c263 => ?_) (fun c263 => ?_)
                                                  · have hf := (if_pos c263).symm.trans hf
                                                    exact B1485 rc23 hrc23 σ257 u4 _ _ _ j (cN + 1) (sN + 6) hf hj5 (by omega) (by omega) hj4 hP hS (lv_sub hl [2, 3, 4, 5, 6] rfl)
                                                  · have hf := (if_neg c263).symm.trans hf
                                                    refine lv_iconst (v := 0) hx hb dL_law_1483 (by decide) ?_
                                                    exact absurd (Option.some.inj hf) (by decide)
                                              · have hf := (if_neg c261).symm.trans hf
                                                refine lv_iconst (v := 0) hx hb dL_law_1466 (by decide) ?_
                                                exact absurd (Option.some.inj hf) (by decide)
                                            · have hf := (if_neg c249).symm.trans hf
                                              have hc3 := zt_nz (0) (by decide) c3
                                              have hc18 := zt_nz (1) (by decide) c18
                                              have hc23 := zt_nz (2) (by decide) c23
                                              have hc42 := zt_nz (3) (by decide) c42
                                              have hc57 := zt_nz (4) (by decide) c57
                                              have hc70 := zt_nz (5) (by decide) c70
                                              have hc85 := zt_nz (6) (by decide) c85
                                              have hc102 := zt_nz (7) (by decide) c102
                                              have hc115 := zt_nz (8) (by decide) c115
                                              have hc119 := zt_nz (9) (by decide) c119
                                              have hc136 := zt_nz (10) (by decide) c136
                                              have hc149 := zt_nz (11) (by decide) c149
                                              have hc154 := zt_nz (12) (by decide) c154
                                              have hc169 := zt_nz (13) (by decide) c169
                                              have hc184 := zt_nz (14) (by decide) c184
                                              have hc192 := zt_nz (15) (by decide) c192
                                              have hc205 := zt_nz (16) (by decide) c205
                                              have hc222 := zt_nz (17) (by decide) c222
                                              have hc236 := zt_nz (18) (by decide) c236
                                              have hc249 := zt_nz (19) (by decide) c249
                                              refine lv_tableOut (tgt := 1488) hx hb dL_law_39 (by omega) (by decide) ?_
                                              exact B1488 rc23 hrc23 σ u4 _ _ _ j cN sN hf hj5 (by omega) (by omega) hj4 hP hS (lv_sub hl [0, 1, 2, 3, 4] rfl)

