/-! contracts over the machine, by program: each method does what its function says -/
theorem zh_X8_isLife : yX8_isLife.cls ≠ "java/lang/invoke/MethodHandle" ∧ yX8_isLife.cls ≠ "java/lang/invoke/VarHandle" ∧ (parseMethodDescriptor yX8_isLife.desc).map (fun d => d.parameters.length) = some 1 := by decide +kernel
set_option maxHeartbeats 4000000 in
set_option maxRecDepth 100000 in
theorem m_X8_isLife (l : Launch) (G : zt_G) {σ : zt_St} {x0 : Int32} {r : Int32} (hf : f_X8_isLife x0 = some r) : zt_Mi l G yX8_isLife wsX8_isLife 0 0 [.int x0] σ r σ := by
  refine Met.ofW (cc := cX8_isLife) (maxL := 1) (ret := (some .boolean)) (by decide) rfl ?_
  intro p e s m args below meth c s₁ B hml hv
  obtain ⟨rfl, hBB⟩ := hv
  have hE := zt_B.env hBB; have hK := hE.2.1; have hP := hBB.2.1
  have hx := B.exec; have hb := B.bytes; have hr := B.returns; have hts := atoms_spec (ws := wsX8_isLife) B.pre
  have hown : s.vm.findClass RX8 = some m.cls := findClass_of_methodNamed B.named
  have hlocks := B.notSynchronized
  have hS : va_S (zt_A G) s.heap s.heap [] := va_S.rf
  have hl := lv_entry ([.int x0]) (n := 1) (Nat.le_of_ble_eq_true rfl)
  rw [lg_entry_eq]
  generalize (lg_sl ([.int x0]) ++ List.replicate (1 - (lg_sl ([.int x0])).length) Slot.unset).toArray = ls at hl ⊢
  have hl : lv_has ls 1 [(0, .int x0)] := hl
  show W p l e (zt_R 0 0) s m ([.int x0] : List Value).toArray below meth c s.heap [] 0 0 (MQ below (zt_Ci G r σ) ([.int x0] : List Value).toArray s 0 0 (zt_A G)) (F0 m 0 ls [])
  unfold f_X8_isLife at hf
  refine lv_iload_n hx hb dX8_isLife_0 rfl (lv_at hl 0 rfl) ?_
  refine lv_iconst (v := 1) hx hb dX8_isLife_1 (by decide) ?_
  refine lv_icmp_lt (tgt := 15) hx hb dX8_isLife_2 (by decide) (fun c1 => ?_) (fun c1 => ?_)
  · have hf := (if_pos c1).symm.trans hf
    refine lv_iconst (v := 0) hx hb dX8_isLife_15 (by decide) ?_
    exact W.zret hx hb hr (zt_bn (by decide)).1 (fun t ht hW => ⟨⟨_, _, rfl, ⟨Option.some.inj hf, rfl⟩, zt_go hE hP hS zt_id ht hW⟩, hS.F ht⟩) hS.2.2 dX8_isLife_16
  · have hf := (if_neg c1).symm.trans hf
    refine lv_iload_n hx hb dX8_isLife_5 rfl (lv_at hl 0 rfl) ?_
    refine lv_bipush (v := 50) hx hb dX8_isLife_6 (by decide +kernel) ?_
    refine lv_icmp_gt (tgt := 15) hx hb dX8_isLife_8 (by decide) (fun c2 => ?_) (fun c2 => ?_)
    · have hf := (if_pos c2).symm.trans hf
      refine lv_iconst (v := 0) hx hb dX8_isLife_15 (by decide) ?_
      exact W.zret hx hb hr (zt_bn (by decide)).1 (fun t ht hW => ⟨⟨_, _, rfl, ⟨Option.some.inj hf, rfl⟩, zt_go hE hP hS zt_id ht hW⟩, hS.F ht⟩) hS.2.2 dX8_isLife_16
    · have hf := (if_neg c2).symm.trans hf
      refine lv_iconst (v := 1) hx hb dX8_isLife_11 (by decide) ?_
      refine lv_goto (tgt := 16) hx hb dX8_isLife_12 (by decide) ?_
      exact W.zret hx hb hr (zt_bn (by decide)).1 (fun t ht hW => ⟨⟨_, _, rfl, ⟨Option.some.inj hf, rfl⟩, zt_go hE hP hS zt_id ht hW⟩, hS.F ht⟩) hS.2.2 dX8_isLife_16

theorem zh_X8_zone : yX8_zone.cls = RX8 ∧ yX8_zone.cls ≠ "java/lang/invoke/MethodHandle" ∧ yX8_zone.cls ≠ "java/lang/invoke/VarHandle" ∧ (parseMethodDescriptor yX8_zone.desc).map (fun d => d.parameters.length) = some 2 := by decide +kernel
set_option maxHeartbeats 4000000 in
set_option maxRecDepth 100000 in
theorem m_X8_zone (l : Launch) (hl2 : l.stackTraces = false) (G : zt_G) {σ : zt_St} {x1 : Int32} {x2 : Int32} {c9 r : Int32} {σ1 : zt_St} {sz : Nat} (hf : f_X8_zone σ x1 x2 = some (c9, r, σ1)) : zt_MXi l G yX8_zone wsX8_zone 6 82 1 6 [.ref (zt_ad G 0), .int x1, .int x2] sz σ c9 r σ1 := by
  refine vx_ofW (cc := cX8_zone) (maxL := 3) (ret := (some .int)) (by decide) rfl ?_
  intro p e s m args below meth c s₁ B hml hnt hv
  obtain ⟨rfl, rfl, hBB, hX⟩ := hv
  have hE := zt_B.env hBB; have hK := hE.2.1; have hP := hBB.2.1
  have hx := B.exec; have hb := B.bytes; have hr := B.returns; have hts := atoms_spec (ws := wsX8_zone) B.pre
  have hown : s.vm.findClass RX8 = some m.cls := findClass_of_methodNamed B.named
  have hlocks := B.notSynchronized
  have hS : va_S (zt_A2 G s.heap.size) s.heap s.heap [] := va_S.rf
  have hl := lv_entry ([.ref (zt_ad G 0), .int x1, .int x2]) (n := 3) (Nat.le_of_ble_eq_true rfl)
  rw [lg_entry_eq]
  generalize (lg_sl ([.ref (zt_ad G 0), .int x1, .int x2]) ++ List.replicate (3 - (lg_sl ([.ref (zt_ad G 0), .int x1, .int x2])).length) Slot.unset).toArray = ls at hl ⊢
  have hl : lv_has ls 3 [(0, .ref (zt_ad G 0)), (1, .int x1), (2, .int x2)] := hl
  show W p l e (zt_RX 6 82 1 6) s m ([.ref (zt_ad G 0), .int x1, .int x2] : List Value).toArray below meth c s.heap [] 0 0 (vx_MQ below (zt_Yi G c9 r σ1 s.heap.size) (zt_XC G c9 σ1 s.heap.size) ([.ref (zt_ad G 0), .int x1, .int x2] : List Value).toArray s 1 6 (zt_A2 G s.heap.size)) (F0 m 0 ls [])
  have fl10 := hts (.fieldLink RX8 10 "ZoneTree" "zones" "LZoneTree$Zones;") (List.mem_cons_of_mem _ (List.mem_append_left _ (List.mem_append_left _ (List.mem_append_left _ (List.mem_append_left _ (List.mem_append_left _ (List.mem_append_left _ (List.mem_of_getElem? (i := 4) rfl))))))))
  have fl58 := zt_Nw.use (args := ([.ref (zt_ad G 0), .int x1, .int x2] : List Value).toArray) hE.2.2.1 (q := ("ZoneTree", 58, "ZoneTree$Zones", "count", "I", "ZoneTree")) (List.mem_of_getElem? (i := 10) rfl)
  have inX7 : ∀ w ∈ wsX70, w ∈ wsX8_zone := fun w h => (List.mem_cons_of_mem _ (List.mem_append_left _ (List.mem_append_left _ (List.mem_append_left _ (List.mem_append_right _ h)))))
  have inX8 : ∀ w ∈ wsX80, w ∈ wsX8_zone := fun w h => (List.mem_cons_of_mem _ (List.mem_append_left _ (List.mem_append_left _ (List.mem_append_left _ (List.mem_append_left _ (List.mem_append_right _ h))))))
  have B18 : ∀ (σ : zt_St) (H : Heap) (locs : List Loc) (ls : Array Slot), f_X8_zone_18 σ = some (c9, r, σ1) → va_P (zt_D G) vwCl (zt_ww G σ) H → va_S (zt_A2 G s.heap.size) s.heap H locs → lv_has ls 3 [] → W p l e (zt_RX 6 82 1 6) s m ([.ref (zt_ad G 0), .int x1, .int x2] : List Value).toArray below meth c H locs 0 0 (vx_MQ below (zt_Yi G c9 r σ1 s.heap.size) (zt_XC G c9 σ1 s.heap.size) ([.ref (zt_ad G 0), .int x1, .int x2] : List Value).toArray s 1 6 (zt_A2 G s.heap.size)) (F0 m 18 ls []) := by
    intro σ H locs ls hf hP hS hl
    unfold f_X8_zone_18 at hf
    obtain ⟨sa, hsa⟩ := hX.2.2.1 _ (List.mem_of_getElem? (l := zt_xs) (i := 0) rfl)
    exact vx_throwS (cls := "java/lang/IllegalArgumentException") (text := "the apex or the life is out of range") (names := ["java/lang/RuntimeException", "java/lang/Exception"]) (sa := sa) (A := zt_A2 G s.heap.size) hx hb hl2 hown (by decide +kernel) (by decide +kernel) (hts (.classLink RX8 51 "java/lang/IllegalArgumentException") (List.mem_cons_of_mem _ (List.mem_append_left _ (List.mem_append_left _ (List.mem_append_left _ (List.mem_append_left _ (List.mem_append_left _ (List.mem_append_left _ (List.mem_of_getElem? (i := 0) rfl))))))))) (hts (.initialized "java/lang/IllegalArgumentException") (List.mem_cons_of_mem _ (List.mem_append_left _ (List.mem_append_left _ (List.mem_append_left _ (List.mem_append_left _ (List.mem_append_left _ (List.mem_append_left _ (List.mem_of_getElem? (i := 1) rfl))))))))) hsa (zt_at1 hX (fun w h => hts w (List.mem_cons_of_mem _ (List.mem_append_left _ (List.mem_append_right _ h))))) zt_gd1 (zt_Zqw hX.1 zt_A2n) (zt_Zqw hX.2.1 zt_A2n) hS (hl.1.trans hml.symm) dX8_zone_18 dX8_zone_21 dX8_zone_22 dX8_zone_24 dX8_zone_27 (fun x hxx => (hnt x hxx).elim) (Nat.le_of_ble_eq_true rfl) (Nat.le_of_ble_eq_true rfl) (Nat.le_of_ble_eq_true rfl) (Nat.le_of_ble_eq_true rfl) hlocks (fun t hvm9 h1 h2 => by rw [← (zt_in3x hf).1, ← (zt_in3x hf).2]; exact zt_thrown hP hS h1 h2 (by exact Or.inl ⟨rfl, rfl⟩)) hS.2.2 (Nat.le_of_ble_eq_true rfl) (Nat.le_of_ble_eq_true rfl)
  have B51 : ∀ (σ : zt_St) (H : Heap) (locs : List Loc) (ls : Array Slot), f_X8_zone_51 σ = some (c9, r, σ1) → va_P (zt_D G) vwCl (zt_ww G σ) H → va_S (zt_A2 G s.heap.size) s.heap H locs → lv_has ls 3 [] → W p l e (zt_RX 6 82 1 6) s m ([.ref (zt_ad G 0), .int x1, .int x2] : List Value).toArray below meth c H locs 0 0 (vx_MQ below (zt_Yi G c9 r σ1 s.heap.size) (zt_XC G c9 σ1 s.heap.size) ([.ref (zt_ad G 0), .int x1, .int x2] : List Value).toArray s 1 6 (zt_A2 G s.heap.size)) (F0 m 51 ls []) := by
    intro σ H locs ls hf hP hS hl
    unfold f_X8_zone_51 at hf
    obtain ⟨sa, hsa⟩ := hX.2.2.1 _ (List.mem_of_getElem? (l := zt_xs) (i := 1) rfl)
    exact vx_throwS (cls := "java/lang/IllegalStateException") (text := "there are 6 zones, or one is at that name") (names := ["java/lang/RuntimeException", "java/lang/Exception"]) (sa := sa) (A := zt_A2 G s.heap.size) hx hb hl2 hown (by decide +kernel) (by decide +kernel) (hts (.classLink RX8 65 "java/lang/IllegalStateException") (List.mem_cons_of_mem _ (List.mem_append_left _ (List.mem_append_left _ (List.mem_append_left _ (List.mem_append_left _ (List.mem_append_left _ (List.mem_append_left _ (List.mem_of_getElem? (i := 2) rfl))))))))) (hts (.initialized "java/lang/IllegalStateException") (List.mem_cons_of_mem _ (List.mem_append_left _ (List.mem_append_left _ (List.mem_append_left _ (List.mem_append_left _ (List.mem_append_left _ (List.mem_append_left _ (List.mem_of_getElem? (i := 3) rfl))))))))) hsa (zt_at2 hX (fun w h => hts w (List.mem_cons_of_mem _ (List.mem_append_right _ h)))) zt_gd2 (zt_Zqw hX.1 zt_A2n) (zt_Zqw hX.2.1 zt_A2n) hS (hl.1.trans hml.symm) dX8_zone_51 dX8_zone_54 dX8_zone_55 dX8_zone_57 dX8_zone_60 (fun x hxx => (hnt x hxx).elim) (Nat.le_of_ble_eq_true rfl) (Nat.le_of_ble_eq_true rfl) (Nat.le_of_ble_eq_true rfl) (Nat.le_of_ble_eq_true rfl) hlocks (fun t hvm9 h1 h2 => by rw [← (zt_in3x hf).1, ← (zt_in3x hf).2]; exact zt_thrown hP hS h1 h2 (by exact Or.inr (Or.inl ⟨rfl, rfl⟩))) hS.2.2 (Nat.le_of_ble_eq_true rfl) (Nat.le_of_ble_eq_true rfl)
  unfold f_X8_zone at hf
  refine lv_iload_n hx hb dX8_zone_0 rfl (lv_at hl 1 rfl) ?_
  refine lv_if_eq (tgt := 18) hx hb dX8_zone_1 (by decide) (fun c1 => ?_) (fun c1 => ?_)
  · have hf := (if_pos c1).symm.trans hf
    exact B18 σ _ _ _ hf hP hS (lv_sub hl [] rfl)
  · have hf := (if_neg c1).symm.trans hf
    refine lv_iload_n hx hb dX8_zone_4 rfl (lv_at hl 1 rfl) ?_
    obtain ⟨v2, hvv2, hf⟩ := zt_bd_some hf
    refine va_calli (va_runS (As := [.int x1]) (rest := []) ⟨hx, hb, hml, hown, hts⟩ (m_X3_isName l G (σ := σ) hvv2) (va_cwS 1 hts gX8_zone_X3_isName rfl rfl rfl zh_X3_isName ⟨Nat.le_of_ble_eq_true rfl, Nat.le_of_ble_eq_true rfl⟩) ⟨zt_blind, fun U hU hW => ⟨rfl, zt_go hE hP hS zt_id2 hU hW⟩⟩ rfl rfl hl.1 rfl (lv_room (Nat.le_of_ble_eq_true rfl)) dX8_zone_5 ⟨Nat.le_of_ble_eq_true rfl, Nat.le_of_ble_eq_true rfl⟩) hS (fun _ _ h => Or.inl h) (fun _ h => Or.inl h) (fun r u t H locs ht hvm hw hB _ _ hS => ?_)
    rw [hw.1]; have hB : zt_B G u t := hB; rw [hw.2] at hB; have hP := zt_B.P hB ht
    refine W.cs (cells' := 0) (slots' := 0) rfl rfl ?_
    refine lv_if_eq (tgt := 18) hx hb dX8_zone_8 (by decide) (fun c4 => ?_) (fun c4 => ?_)
    · have hf := (if_pos c4).symm.trans hf
      exact B18 σ _ _ _ hf hP hS (lv_sub hl [] rfl)
    · have hf := (if_neg c4).symm.trans hf
      refine lv_iload_n hx hb dX8_zone_11 rfl (lv_at hl 2 rfl) ?_
      obtain ⟨v5, hvv5, hf⟩ := zt_bd_some hf
      refine va_calli (va_runS (As := [.int x2]) (rest := []) ⟨hx, hb, hml, hown, hts⟩ (m_X8_isLife l G (σ := σ) hvv5) (va_cwS 1 hts gX8_zone_X8_isLife rfl rfl rfl zh_X8_isLife ⟨Nat.le_of_ble_eq_true rfl, Nat.le_of_ble_eq_true rfl⟩) ⟨zt_blind, fun U hU hW => ⟨rfl, zt_go hE hP hS zt_id2 hU hW⟩⟩ rfl rfl hl.1 rfl (lv_room (Nat.le_of_ble_eq_true rfl)) dX8_zone_12 ⟨Nat.le_of_ble_eq_true rfl, Nat.le_of_ble_eq_true rfl⟩) hS (fun _ _ h => Or.inl h) (fun _ h => Or.inl h) (fun r u t H locs ht hvm hw hB _ _ hS => ?_)
      rw [hw.1]; have hB : zt_B G u t := hB; rw [hw.2] at hB; have hP := zt_B.P hB ht
      refine W.cs (cells' := 0) (slots' := 0) rfl rfl ?_
      refine lv_if_ne (tgt := 28) hx hb dX8_zone_15 (by decide) (fun c7 => ?_) (fun c7 => ?_)
      · have hf := (if_neg c7).symm.trans hf
        refine lv_aload_n hx hb dX8_zone_28 rfl (lv_at hl 0 rfl) ?_
        refine va_get (D := zt_D G) (ci := 7) (v := .ref (zt_ad G 1)) (C := RX8) (T := TX8) (N := 5) hx hb hts inX8 hown hK hP 0 (zt_a7 (rfl : zt_kd 0 = 7)) rfl 0 (by decide) fl10 (fun _ h9 => h9) rfl dX8_zone_29 ?_
        refine va_getN (D := zt_D G) (ci := 6) (v := .int (σ 1 1)) (C := RX7) (T := TX7) (N := 2) hx hb hts inX7 hown hK hP 1 (zt_a6 (rfl : zt_kd 1 = 6)) rfl 1 (by decide) fl58 (fun _ h9 => h9) rfl dX8_zone_32 ?_
        refine lv_bipush (v := 6) hx hb dX8_zone_35 (by decide +kernel) ?_
        refine lv_icmp_ge (tgt := 51) hx hb dX8_zone_37 (by decide) (fun c8 => ?_) (fun c8 => ?_)
        · have hf := (if_pos c8).symm.trans hf
          exact B51 σ _ _ _ hf hP hS (lv_sub hl [] rfl)
        · have hf := (if_neg c8).symm.trans hf
          refine lv_aload_n hx hb dX8_zone_40 rfl (lv_at hl 0 rfl) ?_
          refine va_get (D := zt_D G) (ci := 7) (v := .ref (zt_ad G 1)) (C := RX8) (T := TX8) (N := 5) hx hb hts inX8 hown hK hP 0 (zt_a7 (rfl : zt_kd 0 = 7)) rfl 0 (by decide) fl10 (fun _ h9 => h9) rfl dX8_zone_41 ?_
          refine lv_iload_n hx hb dX8_zone_44 rfl (lv_at hl 1 rfl) ?_
          obtain ⟨v9, hvv9, hf⟩ := zt_bd_some hf
          refine va_calli (va_runV (As := [.int x1]) (rest := []) ⟨hx, hb, hml, hown, hts⟩ (m_X7_isOneAt l G (σ := σ) hvv9) (cwV 1 hts gX8_zone_X7_isOneAt rfl rfl rfl zh_X7_isOneAt ⟨Nat.le_of_ble_eq_true rfl, Nat.le_of_ble_eq_true rfl⟩) ⟨zt_blind, va_recv hK hP (ci := 6) (q0 := 1) rfl (zt_a6 (rfl : zt_kd 1 = 6)), fun U hU hW => ⟨rfl, zt_go hE hP hS zt_id2 hU hW⟩⟩ rfl rfl hl.1 rfl (lv_room (Nat.le_of_ble_eq_true rfl)) dX8_zone_45 ⟨Nat.le_of_ble_eq_true rfl, Nat.le_of_ble_eq_true rfl⟩) hS (fun _ _ h => Or.inl h) (fun _ h => Or.inl h) (fun r u t H locs ht hvm hw hB _ _ hS => ?_)
          rw [hw.1]; have hB : zt_B G u t := hB; rw [hw.2] at hB; have hP := zt_B.P hB ht
          refine W.cs (cells' := 0) (slots' := 0) rfl rfl ?_
          refine lv_if_eq (tgt := 61) hx hb dX8_zone_48 (by decide) (fun c11 => ?_) (fun c11 => ?_)
          · have hf := (if_pos c11).symm.trans hf
            refine lv_aload_n hx hb dX8_zone_61 rfl (lv_at hl 0 rfl) ?_
            refine va_get (D := zt_D G) (ci := 7) (v := .ref (zt_ad G 1)) (C := RX8) (T := TX8) (N := 5) hx hb hts inX8 hown hK hP 0 (zt_a7 (rfl : zt_kd 0 = 7)) rfl 0 (by decide) fl10 (fun _ h9 => h9) rfl dX8_zone_62 ?_
            refine lv_iload_n hx hb dX8_zone_65 rfl (lv_at hl 1 rfl) ?_
            refine lv_iload_n hx hb dX8_zone_66 rfl (lv_at hl 2 rfl) ?_
            obtain ⟨⟨v12a, σ13a⟩, hvv12, hf⟩ := zt_bd_some hf
            obtain ⟨v12, hv12, hf⟩ := zt_lt_some hf; obtain ⟨σ13, hσ13, hf⟩ := zt_lt_some hf; rw [show (v12a, σ13a) = (v12, σ13) from by rw [hv12, hσ13]] at hvv12
            refine va_calli (va_runV (As := [.int x1, .int x2]) (rest := []) ⟨hx, hb, hml, hown, hts⟩ (m_X7_make l G (σ := σ) hvv12) (cwV 2 hts gX8_zone_X7_make rfl rfl rfl zh_X7_make ⟨Nat.le_of_ble_eq_true rfl, Nat.le_of_ble_eq_true rfl⟩) ⟨zt_blind, va_recv hK hP (ci := 6) (q0 := 1) rfl (zt_a6 (rfl : zt_kd 1 = 6)), fun U hU hW => ⟨rfl, zt_go hE hP hS zt_id2 hU hW⟩⟩ rfl rfl hl.1 rfl (lv_room (Nat.le_of_ble_eq_true rfl)) dX8_zone_67 ⟨Nat.le_of_ble_eq_true rfl, Nat.le_of_ble_eq_true rfl⟩) hS (fun _ _ h => Or.inl h) (fun _ h => Or.inl h) (fun r u t H locs ht hvm hw hB _ _ hS => ?_)
            rw [hw.1]; have hB : zt_B G u t := hB; rw [hw.2] at hB; have hP := zt_B.P hB ht
            refine W.cs (cells' := 0) (slots' := 0) rfl rfl ?_
            refine vx_ret ?_; refine W.widen (k := 1) (n := 6) (Nat.le_of_ble_eq_true rfl) (Nat.le_of_ble_eq_true rfl) ?_
            exact W.iret hx hb hr (fun t ht hW => ⟨⟨_, _, rfl, (zt_in3 hf), zt_go hE hP hS zt_id2 ht hW⟩, hS.F ht⟩) hS.2.2 dX8_zone_70
          · have hf := (if_neg c11).symm.trans hf
            exact B51 σ _ _ _ hf hP hS (lv_sub hl [] rfl)
      · have hf := (if_pos c7).symm.trans hf
        exact B18 σ _ _ _ hf hP hS (lv_sub hl [] rfl)

theorem zh_X8_isSort : yX8_isSort.cls ≠ "java/lang/invoke/MethodHandle" ∧ yX8_isSort.cls ≠ "java/lang/invoke/VarHandle" ∧ (parseMethodDescriptor yX8_isSort.desc).map (fun d => d.parameters.length) = some 1 := by decide +kernel
set_option maxHeartbeats 4000000 in
set_option maxRecDepth 100000 in
theorem m_X8_isSort (l : Launch) (G : zt_G) {σ : zt_St} {x0 : Int32} {r : Int32} (hf : f_X8_isSort x0 = some r) : zt_Mi l G yX8_isSort wsX8_isSort 0 0 [.int x0] σ r σ := by
  refine Met.ofW (cc := cX8_isSort) (maxL := 1) (ret := (some .boolean)) (by decide) rfl ?_
  intro p e s m args below meth c s₁ B hml hv
  obtain ⟨rfl, hBB⟩ := hv
  have hE := zt_B.env hBB; have hK := hE.2.1; have hP := hBB.2.1
  have hx := B.exec; have hb := B.bytes; have hr := B.returns; have hts := atoms_spec (ws := wsX8_isSort) B.pre
  have hown : s.vm.findClass RX8 = some m.cls := findClass_of_methodNamed B.named
  have hlocks := B.notSynchronized
  have hS : va_S (zt_A G) s.heap s.heap [] := va_S.rf
  have hl := lv_entry ([.int x0]) (n := 1) (Nat.le_of_ble_eq_true rfl)
  rw [lg_entry_eq]
  generalize (lg_sl ([.int x0]) ++ List.replicate (1 - (lg_sl ([.int x0])).length) Slot.unset).toArray = ls at hl ⊢
  have hl : lv_has ls 1 [(0, .int x0)] := hl
  show W p l e (zt_R 0 0) s m ([.int x0] : List Value).toArray below meth c s.heap [] 0 0 (MQ below (zt_Ci G r σ) ([.int x0] : List Value).toArray s 0 0 (zt_A G)) (F0 m 0 ls [])
  unfold f_X8_isSort at hf
  refine lv_iload_n hx hb dX8_isSort_0 rfl (lv_at hl 0 rfl) ?_
  refine lv_if_lt (tgt := 13) hx hb dX8_isSort_1 (by decide) (fun c1 => ?_) (fun c1 => ?_)
  · have hf := (if_pos c1).symm.trans hf
    refine lv_iconst (v := 0) hx hb dX8_isSort_13 (by decide) ?_
    exact W.zret hx hb hr (zt_bn (by decide)).1 (fun t ht hW => ⟨⟨_, _, rfl, ⟨Option.some.inj hf, rfl⟩, zt_go hE hP hS zt_id ht hW⟩, hS.F ht⟩) hS.2.2 dX8_isSort_14
  · have hf := (if_neg c1).symm.trans hf
    refine lv_iload_n hx hb dX8_isSort_4 rfl (lv_at hl 0 rfl) ?_
    refine lv_iconst (v := 4) hx hb dX8_isSort_5 (by decide) ?_
    refine lv_icmp_gt (tgt := 13) hx hb dX8_isSort_6 (by decide) (fun c2 => ?_) (fun c2 => ?_)
    · have hf := (if_pos c2).symm.trans hf
      refine lv_iconst (v := 0) hx hb dX8_isSort_13 (by decide) ?_
      exact W.zret hx hb hr (zt_bn (by decide)).1 (fun t ht hW => ⟨⟨_, _, rfl, ⟨Option.some.inj hf, rfl⟩, zt_go hE hP hS zt_id ht hW⟩, hS.F ht⟩) hS.2.2 dX8_isSort_14
    · have hf := (if_neg c2).symm.trans hf
      refine lv_iconst (v := 1) hx hb dX8_isSort_9 (by decide) ?_
      refine lv_goto (tgt := 14) hx hb dX8_isSort_10 (by decide) ?_
      exact W.zret hx hb hr (zt_bn (by decide)).1 (fun t ht hW => ⟨⟨_, _, rfl, ⟨Option.some.inj hf, rfl⟩, zt_go hE hP hS zt_id ht hW⟩, hS.F ht⟩) hS.2.2 dX8_isSort_14

theorem zh_X8_checkPlaceAndSort : yX8_checkPlaceAndSort.cls ≠ "java/lang/invoke/MethodHandle" ∧ yX8_checkPlaceAndSort.cls ≠ "java/lang/invoke/VarHandle" ∧ (parseMethodDescriptor yX8_checkPlaceAndSort.desc).map (fun d => d.parameters.length) = some 2 := by decide +kernel
set_option maxHeartbeats 4000000 in
set_option maxRecDepth 100000 in
theorem m_X8_checkPlaceAndSort (l : Launch) (hl2 : l.stackTraces = false) (G : zt_G) {σ : zt_St} {x0 : Int32} {x1 : Int32} {c9 r : Int32} {σ1 : zt_St} {sz : Nat} (hf : f_X8_checkPlaceAndSort σ x0 x1 = some (c9, r, σ1)) : zt_MXv l G yX8_checkPlaceAndSort wsX8_checkPlaceAndSort 6 82 1 6 [.int x0, .int x1] sz σ c9 r σ1 := by
  refine vx_ofW (cc := cX8_checkPlaceAndSort) (maxL := 2) (ret := none) (by decide) rfl ?_
  intro p e s m args below meth c s₁ B hml hnt hv
  obtain ⟨rfl, rfl, hBB, hX⟩ := hv
  have hE := zt_B.env hBB; have hK := hE.2.1; have hP := hBB.2.1
  have hx := B.exec; have hb := B.bytes; have hr := B.returns; have hts := atoms_spec (ws := wsX8_checkPlaceAndSort) B.pre
  have hown : s.vm.findClass RX8 = some m.cls := findClass_of_methodNamed B.named
  have hlocks := B.notSynchronized
  have hS : va_S (zt_A2 G s.heap.size) s.heap s.heap [] := va_S.rf
  have hl := lv_entry ([.int x0, .int x1]) (n := 2) (Nat.le_of_ble_eq_true rfl)
  rw [lg_entry_eq]
  generalize (lg_sl ([.int x0, .int x1]) ++ List.replicate (2 - (lg_sl ([.int x0, .int x1])).length) Slot.unset).toArray = ls at hl ⊢
  have hl : lv_has ls 2 [(0, .int x0), (1, .int x1)] := hl
  show W p l e (zt_RX 6 82 1 6) s m ([.int x0, .int x1] : List Value).toArray below meth c s.heap [] 0 0 (vx_MQ below (zt_Yv G c9 r σ1 s.heap.size) (zt_XC G c9 σ1 s.heap.size) ([.int x0, .int x1] : List Value).toArray s 1 6 (zt_A2 G s.heap.size)) (F0 m 0 ls [])
  have B14 : ∀ (σ : zt_St) (H : Heap) (locs : List Loc) (ls : Array Slot), f_X8_checkPlaceAndSort_14 σ = some (c9, r, σ1) → va_P (zt_D G) vwCl (zt_ww G σ) H → va_S (zt_A2 G s.heap.size) s.heap H locs → lv_has ls 2 [] → W p l e (zt_RX 6 82 1 6) s m ([.int x0, .int x1] : List Value).toArray below meth c H locs 0 0 (vx_MQ below (zt_Yv G c9 r σ1 s.heap.size) (zt_XC G c9 σ1 s.heap.size) ([.int x0, .int x1] : List Value).toArray s 1 6 (zt_A2 G s.heap.size)) (F0 m 14 ls []) := by
    intro σ H locs ls hf hP hS hl
    unfold f_X8_checkPlaceAndSort_14 at hf
    obtain ⟨sa, hsa⟩ := hX.2.2.1 _ (List.mem_of_getElem? (l := zt_xs) (i := 13) rfl)
    exact vx_throwS (cls := "java/lang/IllegalArgumentException") (text := "the name or the sort is out of range") (names := ["java/lang/RuntimeException", "java/lang/Exception"]) (sa := sa) (A := zt_A2 G s.heap.size) hx hb hl2 hown (by decide +kernel) (by decide +kernel) (hts (.classLink RX8 51 "java/lang/IllegalArgumentException") (List.mem_cons_of_mem _ (List.mem_append_left _ (List.mem_of_getElem? (i := 0) rfl)))) (hts (.initialized "java/lang/IllegalArgumentException") (List.mem_cons_of_mem _ (List.mem_append_left _ (List.mem_of_getElem? (i := 1) rfl)))) hsa (zt_at1 hX (fun w h => hts w (List.mem_cons_of_mem _ (List.mem_append_right _ h)))) zt_gd1 (zt_Zqw hX.1 zt_A2n) (zt_Zqw hX.2.1 zt_A2n) hS (hl.1.trans hml.symm) dX8_checkPlaceAndSort_14 dX8_checkPlaceAndSort_17 dX8_checkPlaceAndSort_18 dX8_checkPlaceAndSort_20 dX8_checkPlaceAndSort_23 (fun x hxx => (hnt x hxx).elim) (Nat.le_of_ble_eq_true rfl) (Nat.le_of_ble_eq_true rfl) (Nat.le_of_ble_eq_true rfl) (Nat.le_of_ble_eq_true rfl) hlocks (fun t hvm9 h1 h2 => by rw [← (zt_in3x hf).1, ← (zt_in3x hf).2]; exact zt_thrown hP hS h1 h2 (by exact Or.inl ⟨rfl, rfl⟩)) hS.2.2 (Nat.le_of_ble_eq_true rfl) (Nat.le_of_ble_eq_true rfl)
  unfold f_X8_checkPlaceAndSort at hf
  refine lv_iload_n hx hb dX8_checkPlaceAndSort_0 rfl (lv_at hl 0 rfl) ?_
  obtain ⟨v1, hvv1, hf⟩ := zt_bd_some hf
  refine va_calli (va_runS (As := [.int x0]) (rest := []) ⟨hx, hb, hml, hown, hts⟩ (m_X3_isPlace l G (σ := σ) hvv1) (va_cwS 1 hts gX8_checkPlaceAndSort_X3_isPlace rfl rfl rfl zh_X3_isPlace ⟨Nat.le_of_ble_eq_true rfl, Nat.le_of_ble_eq_true rfl⟩) ⟨zt_blind, fun U hU hW => ⟨rfl, zt_go hE hP hS zt_id2 hU hW⟩⟩ rfl rfl hl.1 rfl (lv_room (Nat.le_of_ble_eq_true rfl)) dX8_checkPlaceAndSort_1 ⟨Nat.le_of_ble_eq_true rfl, Nat.le_of_ble_eq_true rfl⟩) hS (fun _ _ h => Or.inl h) (fun _ h => Or.inl h) (fun r u t H locs ht hvm hw hB _ _ hS => ?_)
  rw [hw.1]; have hB : zt_B G u t := hB; rw [hw.2] at hB; have hP := zt_B.P hB ht
  refine W.cs (cells' := 0) (slots' := 0) rfl rfl ?_
  refine lv_if_eq (tgt := 14) hx hb dX8_checkPlaceAndSort_4 (by decide) (fun c3 => ?_) (fun c3 => ?_)
  · have hf := (if_pos c3).symm.trans hf
    exact B14 σ _ _ _ hf hP hS (lv_sub hl [] rfl)
  · have hf := (if_neg c3).symm.trans hf
    refine lv_iload_n hx hb dX8_checkPlaceAndSort_7 rfl (lv_at hl 1 rfl) ?_
    obtain ⟨v4, hvv4, hf⟩ := zt_bd_some hf
    refine va_calli (va_runS (As := [.int x1]) (rest := []) ⟨hx, hb, hml, hown, hts⟩ (m_X8_isSort l G (σ := σ) hvv4) (va_cwS 1 hts gX8_checkPlaceAndSort_X8_isSort rfl rfl rfl zh_X8_isSort ⟨Nat.le_of_ble_eq_true rfl, Nat.le_of_ble_eq_true rfl⟩) ⟨zt_blind, fun U hU hW => ⟨rfl, zt_go hE hP hS zt_id2 hU hW⟩⟩ rfl rfl hl.1 rfl (lv_room (Nat.le_of_ble_eq_true rfl)) dX8_checkPlaceAndSort_8 ⟨Nat.le_of_ble_eq_true rfl, Nat.le_of_ble_eq_true rfl⟩) hS (fun _ _ h => Or.inl h) (fun _ h => Or.inl h) (fun r u t H locs ht hvm hw hB _ _ hS => ?_)
    rw [hw.1]; have hB : zt_B G u t := hB; rw [hw.2] at hB; have hP := zt_B.P hB ht
    refine W.cs (cells' := 0) (slots' := 0) rfl rfl ?_
    refine lv_if_ne (tgt := 24) hx hb dX8_checkPlaceAndSort_11 (by decide) (fun c6 => ?_) (fun c6 => ?_)
    · have hf := (if_neg c6).symm.trans hf
      refine vx_ret ?_; refine W.widen (k := 1) (n := 6) (Nat.le_of_ble_eq_true rfl) (Nat.le_of_ble_eq_true rfl) ?_
      exact W.vret hx hb hr (fun t ht hW => ⟨⟨_, rfl, zt_in3 hf, zt_go hE hP hS zt_id2 ht hW⟩, hS.F ht⟩) hS.2.2 dX8_checkPlaceAndSort_24
    · have hf := (if_pos c6).symm.trans hf
      exact B14 σ _ _ _ hf hP hS (lv_sub hl [] rfl)

theorem zh_X8_checkRoomToTell : yX8_checkRoomToTell.cls = RX8 ∧ yX8_checkRoomToTell.cls ≠ "java/lang/invoke/MethodHandle" ∧ yX8_checkRoomToTell.cls ≠ "java/lang/invoke/VarHandle" ∧ (parseMethodDescriptor yX8_checkRoomToTell.desc).map (fun d => d.parameters.length) = some 0 := by decide +kernel
set_option maxHeartbeats 4000000 in
set_option maxRecDepth 100000 in
theorem m_X8_checkRoomToTell (l : Launch) (hl2 : l.stackTraces = false) (G : zt_G) {σ : zt_St} {c9 r : Int32} {σ1 : zt_St} {sz : Nat} (hf : f_X8_checkRoomToTell σ = some (c9, r, σ1)) : zt_MXv l G yX8_checkRoomToTell wsX8_checkRoomToTell 6 82 1 6 [.ref (zt_ad G 0)] sz σ c9 r σ1 := by
  refine vx_ofW (cc := cX8_checkRoomToTell) (maxL := 1) (ret := none) (by decide) rfl ?_
  intro p e s m args below meth c s₁ B hml hnt hv
  obtain ⟨rfl, rfl, hBB, hX⟩ := hv
  have hE := zt_B.env hBB; have hK := hE.2.1; have hP := hBB.2.1
  have hx := B.exec; have hb := B.bytes; have hr := B.returns; have hts := atoms_spec (ws := wsX8_checkRoomToTell) B.pre
  have hown : s.vm.findClass RX8 = some m.cls := findClass_of_methodNamed B.named
  have hlocks := B.notSynchronized
  have hS : va_S (zt_A2 G s.heap.size) s.heap s.heap [] := va_S.rf
  have hl := lv_entry ([.ref (zt_ad G 0)]) (n := 1) (Nat.le_of_ble_eq_true rfl)
  rw [lg_entry_eq]
  generalize (lg_sl ([.ref (zt_ad G 0)]) ++ List.replicate (1 - (lg_sl ([.ref (zt_ad G 0)])).length) Slot.unset).toArray = ls at hl ⊢
  have hl : lv_has ls 1 [(0, .ref (zt_ad G 0))] := hl
  show W p l e (zt_RX 6 82 1 6) s m ([.ref (zt_ad G 0)] : List Value).toArray below meth c s.heap [] 0 0 (vx_MQ below (zt_Yv G c9 r σ1 s.heap.size) (zt_XC G c9 σ1 s.heap.size) ([.ref (zt_ad G 0)] : List Value).toArray s 1 6 (zt_A2 G s.heap.size)) (F0 m 0 ls [])
  have fl19 := hts (.fieldLink RX8 19 "ZoneTree" "changes" "LZoneTree$Changes;") (List.mem_cons_of_mem _ (List.mem_append_left _ (List.mem_append_left _ (List.mem_append_left _ (List.mem_of_getElem? (i := 2) rfl)))))
  have fl214 := zt_Nw.use (args := ([.ref (zt_ad G 0)] : List Value).toArray) hE.2.2.1 (q := ("ZoneTree", 214, "ZoneTree$Changes", "count", "I", "ZoneTree")) (List.mem_of_getElem? (i := 12) rfl)
  have inX1 : ∀ w ∈ wsX10, w ∈ wsX8_checkRoomToTell := fun w h => (List.mem_cons_of_mem _ (List.mem_append_left _ (List.mem_append_right _ h)))
  have inX8 : ∀ w ∈ wsX80, w ∈ wsX8_checkRoomToTell := fun w h => (List.mem_cons_of_mem _ (List.mem_append_left _ (List.mem_append_left _ (List.mem_append_right _ h))))
  unfold f_X8_checkRoomToTell at hf
  refine lv_aload_n hx hb dX8_checkRoomToTell_0 rfl (lv_at hl 0 rfl) ?_
  refine va_get (D := zt_D G) (ci := 7) (v := .ref (zt_ad G 69)) (C := RX8) (T := TX8) (N := 5) hx hb hts inX8 hown hK hP 0 (zt_a7 (rfl : zt_kd 0 = 7)) rfl 1 (by decide) fl19 (fun _ h9 => h9) rfl dX8_checkRoomToTell_1 ?_
  refine va_getN (D := zt_D G) (ci := 1) (v := .int (σ 69 5)) (C := RX1) (T := TX1) (N := 7) hx hb hts inX1 hown hK hP 69 (zt_a1 (rfl : zt_kd 69 = 1)) rfl 5 (by decide) fl214 (fun _ h9 => h9) rfl dX8_checkRoomToTell_4 ?_
  refine lv_bipush (v := 10) hx hb dX8_checkRoomToTell_7 (by decide +kernel) ?_
  refine lv_icmp_lt (tgt := 22) hx hb dX8_checkRoomToTell_9 (by decide) (fun c1 => ?_) (fun c1 => ?_)
  · have hf := (if_pos c1).symm.trans hf
    refine vx_ret ?_; refine W.widen (k := 1) (n := 6) (Nat.le_of_ble_eq_true rfl) (Nat.le_of_ble_eq_true rfl) ?_
    exact W.vret hx hb hr (fun t ht hW => ⟨⟨_, rfl, zt_in3 hf, zt_go hE hP hS zt_id2 ht hW⟩, hS.F ht⟩) hS.2.2 dX8_checkRoomToTell_22
  · have hf := (if_neg c1).symm.trans hf
    obtain ⟨sa, hsa⟩ := hX.2.2.1 _ (List.mem_of_getElem? (l := zt_xs) (i := 12) rfl)
    exact vx_throwS (cls := "java/lang/IllegalStateException") (text := "10 conditions and changes are told") (names := ["java/lang/RuntimeException", "java/lang/Exception"]) (sa := sa) (A := zt_A2 G s.heap.size) hx hb hl2 hown (by decide +kernel) (by decide +kernel) (hts (.classLink RX8 65 "java/lang/IllegalStateException") (List.mem_cons_of_mem _ (List.mem_append_left _ (List.mem_append_left _ (List.mem_append_left _ (List.mem_of_getElem? (i := 0) rfl)))))) (hts (.initialized "java/lang/IllegalStateException") (List.mem_cons_of_mem _ (List.mem_append_left _ (List.mem_append_left _ (List.mem_append_left _ (List.mem_of_getElem? (i := 1) rfl)))))) hsa (zt_at2 hX (fun w h => hts w (List.mem_cons_of_mem _ (List.mem_append_right _ h)))) zt_gd2 (zt_Zqw hX.1 zt_A2n) (zt_Zqw hX.2.1 zt_A2n) hS (hl.1.trans hml.symm) dX8_checkRoomToTell_12 dX8_checkRoomToTell_15 dX8_checkRoomToTell_16 dX8_checkRoomToTell_18 dX8_checkRoomToTell_21 (fun x hxx => (hnt x hxx).elim) (Nat.le_of_ble_eq_true rfl) (Nat.le_of_ble_eq_true rfl) (Nat.le_of_ble_eq_true rfl) (Nat.le_of_ble_eq_true rfl) hlocks (fun t hvm9 h1 h2 => by rw [← (zt_in3x hf).1, ← (zt_in3x hf).2]; exact zt_thrown hP hS h1 h2 (by exact Or.inr (Or.inl ⟨rfl, rfl⟩))) hS.2.2 (Nat.le_of_ble_eq_true rfl) (Nat.le_of_ble_eq_true rfl)

theorem zh_X8_need : yX8_need.cls = RX8 ∧ yX8_need.cls ≠ "java/lang/invoke/MethodHandle" ∧ yX8_need.cls ≠ "java/lang/invoke/VarHandle" ∧ (parseMethodDescriptor yX8_need.desc).map (fun d => d.parameters.length) = some 3 := by decide +kernel
set_option maxHeartbeats 4000000 in
set_option maxRecDepth 100000 in
theorem m_X8_need (l : Launch) (hl2 : l.stackTraces = false) (G : zt_G) {σ : zt_St} {x1 : Int32} {x2 : Int32} {x3 : Int32} {c9 r : Int32} {σ1 : zt_St} {sz : Nat} (hf : f_X8_need σ x1 x2 x3 = some (c9, r, σ1)) : zt_MXi l G yX8_need wsX8_need 7 103 2 12 [.ref (zt_ad G 0), .int x1, .int x2, .int x3] sz σ c9 r σ1 := by
  refine vx_ofW (cc := cX8_need) (maxL := 4) (ret := (some .int)) (by decide) rfl ?_
  intro p e s m args below meth c s₁ B hml hnt hv
  obtain ⟨rfl, rfl, hBB, hX⟩ := hv
  have hE := zt_B.env hBB; have hK := hE.2.1; have hP := hBB.2.1
  have hx := B.exec; have hb := B.bytes; have hr := B.returns; have hts := atoms_spec (ws := wsX8_need) B.pre
  have hown : s.vm.findClass RX8 = some m.cls := findClass_of_methodNamed B.named
  have hlocks := B.notSynchronized
  have hS : va_S (zt_A2 G s.heap.size) s.heap s.heap [] := va_S.rf
  have hl := lv_entry ([.ref (zt_ad G 0), .int x1, .int x2, .int x3]) (n := 4) (Nat.le_of_ble_eq_true rfl)
  rw [lg_entry_eq]
  generalize (lg_sl ([.ref (zt_ad G 0), .int x1, .int x2, .int x3]) ++ List.replicate (4 - (lg_sl ([.ref (zt_ad G 0), .int x1, .int x2, .int x3])).length) Slot.unset).toArray = ls at hl ⊢
  have hl : lv_has ls 4 [(0, .ref (zt_ad G 0)), (1, .int x1), (2, .int x2), (3, .int x3)] := hl
  show W p l e (zt_RX 7 103 2 12) s m ([.ref (zt_ad G 0), .int x1, .int x2, .int x3] : List Value).toArray below meth c s.heap [] 0 0 (vx_MQ below (zt_Yi G c9 r σ1 s.heap.size) (zt_XC G c9 σ1 s.heap.size) ([.ref (zt_ad G 0), .int x1, .int x2, .int x3] : List Value).toArray s 2 12 (zt_A2 G s.heap.size)) (F0 m 0 ls [])
  have fl19 := hts (.fieldLink RX8 19 "ZoneTree" "changes" "LZoneTree$Changes;") (List.mem_cons_of_mem _ (List.mem_append_left _ (List.mem_append_left _ (List.mem_append_left _ (List.mem_append_left _ (List.mem_append_left _ (List.mem_of_getElem? (i := 0) rfl)))))))
  have inX8 : ∀ w ∈ wsX80, w ∈ wsX8_need := fun w h => (List.mem_cons_of_mem _ (List.mem_append_left _ (List.mem_append_left _ (List.mem_append_left _ (List.mem_append_right _ h)))))
  have B22 : ∀ (σ : zt_St) (y0 : Int32) (u1 : Int32) (u2 : Int32) (H : Heap) (locs : List Loc) (ls : Array Slot), f_X8_need_22 σ y0 u1 u2 = some (c9, r, σ1) → va_P (zt_D G) vwCl (zt_ww G σ) H → va_S (zt_A2 G s.heap.size) s.heap H locs → lv_has ls 4 [(1, .int u1), (2, .int u2)] → W p l e (zt_RX 7 103 2 12) s m ([.ref (zt_ad G 0), .int x1, .int x2, .int x3] : List Value).toArray below meth c H locs 2 12 (vx_MQ below (zt_Yi G c9 r σ1 s.heap.size) (zt_XC G c9 σ1 s.heap.size) ([.ref (zt_ad G 0), .int x1, .int x2, .int x3] : List Value).toArray s 2 12 (zt_A2 G s.heap.size)) (F0 m 22 ls [.int y0, .ref (zt_ad G 69)]) := by
    intro σ y0 u1 u2 H locs ls hf hP hS hl
    unfold f_X8_need_22 at hf
    refine lv_iload_n hx hb dX8_need_22 rfl (lv_at hl 0 rfl) ?_
    refine lv_iload_n hx hb dX8_need_23 rfl (lv_at hl 1 rfl) ?_
    refine lv_iconst (v := 0) hx hb dX8_need_24 (by decide) ?_
    refine lv_iconst (v := 0) hx hb dX8_need_25 (by decide) ?_
    obtain ⟨⟨v6a, σ7a⟩, hvv6, hf⟩ := zt_bd_some hf
    obtain ⟨v6, hv6, hf⟩ := zt_lt_some hf; obtain ⟨σ7, hσ7, hf⟩ := zt_lt_some hf; rw [show (v6a, σ7a) = (v6, σ7) from by rw [hv6, hσ7]] at hvv6
    refine va_calli (va_runV (As := [.int y0, .int u1, .int u2, .int 0, .int 0]) (rest := []) ⟨hx, hb, hml, hown, hts⟩ (m_X1_tell l G (σ := σ) hvv6) (cwV 5 hts gX8_need_X1_tell rfl rfl rfl zh_X1_tell ⟨Nat.le_of_ble_eq_true rfl, Nat.le_of_ble_eq_true rfl⟩) ⟨zt_blind, va_recv hK hP (ci := 1) (q0 := 69) rfl (zt_a1 (rfl : zt_kd 69 = 1)), fun U hU hW => ⟨rfl, zt_go hE hP hS zt_id2 hU hW⟩⟩ rfl rfl hl.1 rfl (lv_room (Nat.le_of_ble_eq_true rfl)) dX8_need_26 ⟨Nat.le_of_ble_eq_true rfl, Nat.le_of_ble_eq_true rfl⟩) hS (fun _ _ h => Or.inl h) (fun _ h => Or.inl h) (fun r u t H locs ht hvm hw hB _ _ hS => ?_)
    rw [hw.1]; have hB : zt_B G u t := hB; rw [hw.2] at hB; have hP := zt_B.P hB ht
    refine W.cs (cells' := 2) (slots' := 12) rfl rfl ?_
    refine vx_ret ?_; refine W.widen (k := 2) (n := 12) (Nat.le_of_ble_eq_true rfl) (Nat.le_of_ble_eq_true rfl) ?_
    exact W.iret hx hb hr (fun t ht hW => ⟨⟨_, _, rfl, (zt_in3 hf), zt_go hE hP hS zt_id2 ht hW⟩, hS.F ht⟩) hS.2.2 dX8_need_29
  unfold f_X8_need at hf
  refine lv_iload_n hx hb dX8_need_0 rfl (lv_at hl 1 rfl) ?_
  refine lv_iload_n hx hb dX8_need_1 rfl (lv_at hl 2 rfl) ?_
  obtain ⟨e1, v1, σ2, hvv1, hzv1⟩ := zt_bx_some hf
  refine vx_callv (vx_runS (As := [.int x1, .int x2]) (rest := []) ⟨hx, hb, hml, hown, hts⟩ (m_X8_checkPlaceAndSort l hl2 G (σ := σ) hvv1) (va_cwS 2 hts gX8_need_X8_checkPlaceAndSort rfl rfl rfl zh_X8_checkPlaceAndSort ⟨Nat.le_of_ble_eq_true rfl, Nat.le_of_ble_eq_true rfl⟩) ⟨zt_blind2, fun U hU hW => ⟨rfl, zt_go2 hE hX hP hS hU hW⟩⟩ rfl rfl hl.1 rfl (lv_room (Nat.le_of_ble_eq_true rfl)) dX8_need_2 ⟨Nat.le_of_ble_eq_true rfl, Nat.le_of_ble_eq_true rfl⟩) hS (zt_dn hS) (zt_up hS) (zt_dn hS) (fun E ce q9 u t H locs ht hvm hw hB _ _ hS hce hcv hcl => ?_) (fun u t H locs ht hvm hw hB _ _ hS => ?_)
  · rcases hzv1 with ⟨h0, -⟩ | ⟨-, hf⟩
    · exact absurd h0 (zt_exc_ne hB.1)
    · refine vx_out (fun x hxx => (hnt x hxx).elim) hlocks hce hcv hcl (fun t2 ht2 hvm2 => ?_) hS.2.2 (Nat.le_of_ble_eq_true rfl) (Nat.le_of_ble_eq_true rfl)
      have hB2 := hB.2; rw [hw, ht] at hB2; rw [← (zt_in3x hf).1, ← (zt_in3x hf).2]; exact zt_passed hB2 hS ht2 hB.1
  rcases hzv1 with ⟨-, hf⟩ | ⟨h0, -⟩
  rotate_left
  · exact absurd hw.1 h0
  have hB : zt_B G u t := hB; rw [hw.2.2] at hB; have hP := zt_B.P hB ht
  refine W.cs (cells' := 1) (slots' := 6) rfl rfl ?_
  refine lv_aload_n hx hb dX8_need_5 rfl (lv_at hl 0 rfl) ?_
  obtain ⟨e3, v3, σ4, hvv3, hzv3⟩ := zt_bx_some hf
  refine vx_callv (vx_runV (As := []) (rest := []) ⟨hx, hb, hml, hown, hts⟩ (m_X8_checkRoomToTell l hl2 G (σ := σ2) hvv3) (cwV 0 hts gX8_need_X8_checkRoomToTell rfl rfl rfl zh_X8_checkRoomToTell ⟨Nat.le_of_ble_eq_true rfl, Nat.le_of_ble_eq_true rfl⟩) ⟨zt_blind2, va_recv hK hP (ci := 7) (q0 := 0) rfl (zt_a7 (rfl : zt_kd 0 = 7)), fun U hU hW => ⟨rfl, zt_go2 hE hX hP hS hU hW⟩⟩ rfl rfl hl.1 rfl (lv_room (Nat.le_of_ble_eq_true rfl)) dX8_need_6 ⟨Nat.le_of_ble_eq_true rfl, Nat.le_of_ble_eq_true rfl⟩) hS (zt_dn hS) (zt_up hS) (zt_dn hS) (fun E ce q9 u t H locs ht hvm hw hB _ _ hS hce hcv hcl => ?_) (fun u t H locs ht hvm hw hB _ _ hS => ?_)
  · rcases hzv3 with ⟨h0, -⟩ | ⟨-, hf⟩
    · exact absurd h0 (zt_exc_ne hB.1)
    · refine vx_out (fun x hxx => (hnt x hxx).elim) hlocks hce hcv hcl (fun t2 ht2 hvm2 => ?_) hS.2.2 (Nat.le_of_ble_eq_true rfl) (Nat.le_of_ble_eq_true rfl)
      have hB2 := hB.2; rw [hw, ht] at hB2; rw [← (zt_in3x hf).1, ← (zt_in3x hf).2]; exact zt_passed hB2 hS ht2 hB.1
  rcases hzv3 with ⟨-, hf⟩ | ⟨h0, -⟩
  rotate_left
  · exact absurd hw.1 h0
  have hB : zt_B G u t := hB; rw [hw.2.2] at hB; have hP := zt_B.P hB ht
  refine W.cs (cells' := 2) (slots' := 12) rfl rfl ?_
  refine lv_aload_n hx hb dX8_need_9 rfl (lv_at hl 0 rfl) ?_
  refine va_get (D := zt_D G) (ci := 7) (v := .ref (zt_ad G 69)) (C := RX8) (T := TX8) (N := 5) hx hb hts inX8 hown hK hP 0 (zt_a7 (rfl : zt_kd 0 = 7)) rfl 1 (by decide) fl19 (fun _ h9 => h9) rfl dX8_need_10 ?_
  refine lv_iload_n hx hb dX8_need_13 rfl (lv_at hl 3 rfl) ?_
  refine lv_if_eq (tgt := 21) hx hb dX8_need_14 (by decide) (fun c5 => ?_) (fun c5 => ?_)
  · have hf := (if_pos c5).symm.trans hf
    refine lv_iconst (v := 1) hx hb dX8_need_21 (by decide) ?_
    exact B22 σ4 1 x1 x2 _ _ _ hf hP hS (lv_sub hl [1, 2] rfl)
  · have hf := (if_neg c5).symm.trans hf
    refine lv_iconst (v := 0) hx hb dX8_need_17 (by decide) ?_
    refine lv_goto (tgt := 22) hx hb dX8_need_18 (by decide) ?_
    exact B22 σ4 0 x1 x2 _ _ _ hf hP hS (lv_sub hl [1, 2] rfl)

theorem zh_X8_isNumberOf : yX8_isNumberOf.cls ≠ "java/lang/invoke/MethodHandle" ∧ yX8_isNumberOf.cls ≠ "java/lang/invoke/VarHandle" ∧ (parseMethodDescriptor yX8_isNumberOf.desc).map (fun d => d.parameters.length) = some 2 := by decide +kernel
set_option maxHeartbeats 4000000 in
set_option maxRecDepth 100000 in
theorem m_X8_isNumberOf (l : Launch) (G : zt_G) {σ : zt_St} {x0 : Int32} {x1 : Int32} {r : Int32} (hf : f_X8_isNumberOf x0 x1 = some r) : zt_Mi l G yX8_isNumberOf wsX8_isNumberOf 1 22 [.int x0, .int x1] σ r σ := by
  refine Met.ofW (cc := cX8_isNumberOf) (maxL := 3) (ret := (some .boolean)) (by decide) rfl ?_
  intro p e s m args below meth c s₁ B hml hv
  obtain ⟨rfl, hBB⟩ := hv
  have hE := zt_B.env hBB; have hK := hE.2.1; have hP := hBB.2.1
  have hx := B.exec; have hb := B.bytes; have hr := B.returns; have hts := atoms_spec (ws := wsX8_isNumberOf) B.pre
  have hown : s.vm.findClass RX8 = some m.cls := findClass_of_methodNamed B.named
  have hlocks := B.notSynchronized
  have hS : va_S (zt_A G) s.heap s.heap [] := va_S.rf
  have hl := lv_entry ([.int x0, .int x1]) (n := 3) (Nat.le_of_ble_eq_true rfl)
  rw [lg_entry_eq]
  generalize (lg_sl ([.int x0, .int x1]) ++ List.replicate (3 - (lg_sl ([.int x0, .int x1])).length) Slot.unset).toArray = ls at hl ⊢
  have hl : lv_has ls 3 [(0, .int x0), (1, .int x1)] := hl
  show W p l e (zt_R 1 22) s m ([.int x0, .int x1] : List Value).toArray below meth c s.heap [] 0 0 (MQ below (zt_Ci G r σ) ([.int x0, .int x1] : List Value).toArray s 0 0 (zt_A G)) (F0 m 0 ls [])
  have B10 : ∀ (u1 : Int32) (H : Heap) (locs : List Loc) (ls : Array Slot), f_X8_isNumberOf_10 u1 = some r → va_P (zt_D G) vwCl (zt_ww G σ) H → va_S (zt_A G) s.heap H locs → lv_has ls 3 [(1, .int u1)] → W p l e (zt_R 1 22) s m ([.int x0, .int x1] : List Value).toArray below meth c H locs 0 0 (MQ below (zt_Ci G r σ) ([.int x0, .int x1] : List Value).toArray s 0 0 (zt_A G)) (F0 m 10 ls []) := by
    intro u1 H locs ls hf hP hS hl
    unfold f_X8_isNumberOf_10 at hf
    refine lv_iload_n hx hb dX8_isNumberOf_10 rfl (lv_at hl 0 rfl) ?_
    obtain ⟨v5, hvv5, hf⟩ := zt_bd_some hf
    refine va_calli (va_runS (As := [.int u1]) (rest := []) ⟨hx, hb, hml, hown, hts⟩ (m_X3_isName l G (σ := σ) hvv5) (va_cwS 1 hts gX8_isNumberOf_X3_isName rfl rfl rfl zh_X3_isName ⟨Nat.le_of_ble_eq_true rfl, Nat.le_of_ble_eq_true rfl⟩) ⟨zt_blind, fun U hU hW => ⟨rfl, zt_go hE hP hS zt_id hU hW⟩⟩ rfl rfl hl.1 rfl (lv_room (Nat.le_of_ble_eq_true rfl)) dX8_isNumberOf_11 ⟨Nat.zero_le _, Nat.zero_le _⟩) hS (fun _ _ h => h) (fun _ h => h) (fun r u t H locs ht hvm hw hB _ _ hS => ?_)
    rw [hw.1]; have hB : zt_B G u t := hB; rw [hw.2] at hB; have hP := zt_B.P hB ht
    obtain ⟨g7, hf⟩ := zt_gd_some hf
    exact W.zret hx hb hr (zt_bn g7).1 (fun t ht hW => ⟨⟨_, _, rfl, ⟨Option.some.inj hf, rfl⟩, zt_go hE hP hS zt_id ht hW⟩, hS.F ht⟩) hS.2.2 dX8_isNumberOf_14
  have B36 : ∀ (y0 : Int32) (u1 : Int32) (H : Heap) (locs : List Loc) (ls : Array Slot), f_X8_isNumberOf_36 y0 u1 = some r → va_P (zt_D G) vwCl (zt_ww G σ) H → va_S (zt_A G) s.heap H locs → lv_has ls 3 [(1, .int u1)] → W p l e (zt_R 1 22) s m ([.int x0, .int x1] : List Value).toArray below meth c H locs 0 0 (MQ below (zt_Ci G r σ) ([.int x0, .int x1] : List Value).toArray s 0 0 (zt_A G)) (F0 m 36 ls [.int y0]) := by
    intro y0 u1 H locs ls hf hP hS hl
    unfold f_X8_isNumberOf_36 at hf
    refine lv_istore_n (lv' := [(2, .int y0), (1, .int u1)]) hx hb dX8_isNumberOf_36 rfl hl (by decide) rfl (fun ls hl => ?_)
    refine lv_iload_n hx hb dX8_isNumberOf_37 rfl (lv_at hl 1 rfl) ?_
    refine lv_if_lt (tgt := 50) hx hb dX8_isNumberOf_38 (by decide) (fun c8 => ?_) (fun c8 => ?_)
    · have hf := (if_pos c8).symm.trans hf
      refine lv_iconst (v := 0) hx hb dX8_isNumberOf_50 (by decide) ?_
      exact W.zret hx hb hr (zt_bn (by decide)).1 (fun t ht hW => ⟨⟨_, _, rfl, ⟨Option.some.inj hf, rfl⟩, zt_go hE hP hS zt_id ht hW⟩, hS.F ht⟩) hS.2.2 dX8_isNumberOf_51
    · have hf := (if_neg c8).symm.trans hf
      refine lv_iload_n hx hb dX8_isNumberOf_41 rfl (lv_at hl 1 rfl) ?_
      refine lv_iload_n hx hb dX8_isNumberOf_42 rfl (lv_at hl 0 rfl) ?_
      refine lv_icmp_gt (tgt := 50) hx hb dX8_isNumberOf_43 (by decide) (fun c9 => ?_) (fun c9 => ?_)
      · have hf := (if_pos c9).symm.trans hf
        refine lv_iconst (v := 0) hx hb dX8_isNumberOf_50 (by decide) ?_
        exact W.zret hx hb hr (zt_bn (by decide)).1 (fun t ht hW => ⟨⟨_, _, rfl, ⟨Option.some.inj hf, rfl⟩, zt_go hE hP hS zt_id ht hW⟩, hS.F ht⟩) hS.2.2 dX8_isNumberOf_51
      · have hf := (if_neg c9).symm.trans hf
        refine lv_iconst (v := 1) hx hb dX8_isNumberOf_46 (by decide) ?_
        refine lv_goto (tgt := 51) hx hb dX8_isNumberOf_47 (by decide) ?_
        exact W.zret hx hb hr (zt_bn (by decide)).1 (fun t ht hW => ⟨⟨_, _, rfl, ⟨Option.some.inj hf, rfl⟩, zt_go hE hP hS zt_id ht hW⟩, hS.F ht⟩) hS.2.2 dX8_isNumberOf_51
  unfold f_X8_isNumberOf at hf
  refine lv_iload_n hx hb dX8_isNumberOf_0 rfl (lv_at hl 0 rfl) ?_
  refine lv_iconst (v := 1) hx hb dX8_isNumberOf_1 (by decide) ?_
  refine lv_icmp_eq (tgt := 10) hx hb dX8_isNumberOf_2 (by decide) (fun c1 => ?_) (fun c1 => ?_)
  · have hf := (if_pos c1).symm.trans hf
    exact B10 x1 _ _ _ hf hP hS (lv_sub hl [1] rfl)
  · have hf := (if_neg c1).symm.trans hf
    refine lv_iload_n hx hb dX8_isNumberOf_5 rfl (lv_at hl 0 rfl) ?_
    refine lv_iconst (v := 2) hx hb dX8_isNumberOf_6 (by decide) ?_
    refine lv_icmp_ne (tgt := 15) hx hb dX8_isNumberOf_7 (by decide) (fun c2 => ?_) (fun c2 => ?_)
    · have hf := (if_neg c2).symm.trans hf
      refine lv_iload_n hx hb dX8_isNumberOf_15 rfl (lv_at hl 0 rfl) ?_
      refine lv_if_ne (tgt := 24) hx hb dX8_isNumberOf_16 (by decide) (fun c3 => ?_) (fun c3 => ?_)
      · have hf := (if_neg c3).symm.trans hf
        refine lv_iload_n hx hb dX8_isNumberOf_24 rfl (lv_at hl 0 rfl) ?_
        refine lv_iconst (v := 3) hx hb dX8_isNumberOf_25 (by decide) ?_
        refine lv_icmp_ne (tgt := 33) hx hb dX8_isNumberOf_26 (by decide) (fun c4 => ?_) (fun c4 => ?_)
        · have hf := (if_neg c4).symm.trans hf
          refine lv_sipush (v := 996) hx hb dX8_isNumberOf_33 (by decide +kernel) ?_
          exact B36 996 x1 _ _ _ hf hP hS (lv_sub hl [1] rfl)
        · have hf := (if_pos c4).symm.trans hf
          refine lv_iconst (v := 5) hx hb dX8_isNumberOf_29 (by decide) ?_
          refine lv_goto (tgt := 36) hx hb dX8_isNumberOf_30 (by decide) ?_
          exact B36 5 x1 _ _ _ hf hP hS (lv_sub hl [1] rfl)
      · have hf := (if_pos c3).symm.trans hf
        refine lv_bipush (v := 99) hx hb dX8_isNumberOf_19 (by decide +kernel) ?_
        refine lv_goto (tgt := 36) hx hb dX8_isNumberOf_21 (by decide) ?_
        exact B36 99 x1 _ _ _ hf hP hS (lv_sub hl [1] rfl)
    · have hf := (if_pos c2).symm.trans hf
      exact B10 x1 _ _ _ hf hP hS (lv_sub hl [1] rfl)

theorem zh_X8_put : yX8_put.cls = RX8 ∧ yX8_put.cls ≠ "java/lang/invoke/MethodHandle" ∧ yX8_put.cls ≠ "java/lang/invoke/VarHandle" ∧ (parseMethodDescriptor yX8_put.desc).map (fun d => d.parameters.length) = some 4 := by decide +kernel
set_option maxHeartbeats 4000000 in
set_option maxRecDepth 100000 in
theorem m_X8_put (l : Launch) (hl2 : l.stackTraces = false) (G : zt_G) {σ : zt_St} {x1 : Int32} {x2 : Int32} {x3 : Int32} {x4 : Int32} {c9 r : Int32} {σ1 : zt_St} {sz : Nat} (hf : f_X8_put σ x1 x2 x3 x4 = some (c9, r, σ1)) : zt_MXi l G yX8_put wsX8_put 7 103 3 18 [.ref (zt_ad G 0), .int x1, .int x2, .int x3, .int x4] sz σ c9 r σ1 := by
  refine vx_ofW (cc := cX8_put) (maxL := 5) (ret := (some .int)) (by decide) rfl ?_
  intro p e s m args below meth c s₁ B hml hnt hv
  obtain ⟨rfl, rfl, hBB, hX⟩ := hv
  have hE := zt_B.env hBB; have hK := hE.2.1; have hP := hBB.2.1
  have hx := B.exec; have hb := B.bytes; have hr := B.returns; have hts := atoms_spec (ws := wsX8_put) B.pre
  have hown : s.vm.findClass RX8 = some m.cls := findClass_of_methodNamed B.named
  have hlocks := B.notSynchronized
  have hS : va_S (zt_A2 G s.heap.size) s.heap s.heap [] := va_S.rf
  have hl := lv_entry ([.ref (zt_ad G 0), .int x1, .int x2, .int x3, .int x4]) (n := 5) (Nat.le_of_ble_eq_true rfl)
  rw [lg_entry_eq]
  generalize (lg_sl ([.ref (zt_ad G 0), .int x1, .int x2, .int x3, .int x4]) ++ List.replicate (5 - (lg_sl ([.ref (zt_ad G 0), .int x1, .int x2, .int x3, .int x4])).length) Slot.unset).toArray = ls at hl ⊢
  have hl : lv_has ls 5 [(0, .ref (zt_ad G 0)), (1, .int x1), (2, .int x2), (3, .int x3), (4, .int x4)] := hl
  show W p l e (zt_RX 7 103 3 18) s m ([.ref (zt_ad G 0), .int x1, .int x2, .int x3, .int x4] : List Value).toArray below meth c s.heap [] 0 0 (vx_MQ below (zt_Yi G c9 r σ1 s.heap.size) (zt_XC G c9 σ1 s.heap.size) ([.ref (zt_ad G 0), .int x1, .int x2, .int x3, .int x4] : List Value).toArray s 3 18 (zt_A2 G s.heap.size)) (F0 m 0 ls [])
  have fl19 := hts (.fieldLink RX8 19 "ZoneTree" "changes" "LZoneTree$Changes;") (List.mem_cons_of_mem _ (List.mem_append_left _ (List.mem_append_left _ (List.mem_append_left _ (List.mem_append_left _ (List.mem_append_left _ (List.mem_of_getElem? (i := 2) rfl)))))))
  have inX8 : ∀ w ∈ wsX80, w ∈ wsX8_put := fun w h => (List.mem_cons_of_mem _ (List.mem_append_left _ (List.mem_append_left _ (List.mem_append_left _ (List.mem_append_right _ h)))))
  have B21 : ∀ (σ : zt_St) (H : Heap) (locs : List Loc) (ls : Array Slot), f_X8_put_21 σ = some (c9, r, σ1) → va_P (zt_D G) vwCl (zt_ww G σ) H → va_S (zt_A2 G s.heap.size) s.heap H locs → lv_has ls 5 [] → W p l e (zt_RX 7 103 3 18) s m ([.ref (zt_ad G 0), .int x1, .int x2, .int x3, .int x4] : List Value).toArray below meth c H locs 1 6 (vx_MQ below (zt_Yi G c9 r σ1 s.heap.size) (zt_XC G c9 σ1 s.heap.size) ([.ref (zt_ad G 0), .int x1, .int x2, .int x3, .int x4] : List Value).toArray s 3 18 (zt_A2 G s.heap.size)) (F0 m 21 ls []) := by
    intro σ H locs ls hf hP hS hl
    unfold f_X8_put_21 at hf
    obtain ⟨sa, hsa⟩ := hX.2.2.1 _ (List.mem_of_getElem? (l := zt_xs) (i := 2) rfl)
    exact vx_throwS (cls := "java/lang/IllegalArgumentException") (text := "the number or the life is out of range") (names := ["java/lang/RuntimeException", "java/lang/Exception"]) (sa := sa) (A := zt_A2 G s.heap.size) hx hb hl2 hown (by decide +kernel) (by decide +kernel) (hts (.classLink RX8 51 "java/lang/IllegalArgumentException") (List.mem_cons_of_mem _ (List.mem_append_left _ (List.mem_append_left _ (List.mem_append_left _ (List.mem_append_left _ (List.mem_append_left _ (List.mem_of_getElem? (i := 0) rfl)))))))) (hts (.initialized "java/lang/IllegalArgumentException") (List.mem_cons_of_mem _ (List.mem_append_left _ (List.mem_append_left _ (List.mem_append_left _ (List.mem_append_left _ (List.mem_append_left _ (List.mem_of_getElem? (i := 1) rfl)))))))) hsa (zt_at1 hX (fun w h => hts w (List.mem_cons_of_mem _ (List.mem_append_left _ (List.mem_append_right _ h))))) zt_gd1 (zt_Zqw hX.1 zt_A2n) (zt_Zqw hX.2.1 zt_A2n) hS (hl.1.trans hml.symm) dX8_put_21 dX8_put_24 dX8_put_25 dX8_put_27 dX8_put_30 (fun x hxx => (hnt x hxx).elim) (Nat.le_of_ble_eq_true rfl) (Nat.le_of_ble_eq_true rfl) (Nat.le_of_ble_eq_true rfl) (Nat.le_of_ble_eq_true rfl) hlocks (fun t hvm9 h1 h2 => by rw [← (zt_in3x hf).1, ← (zt_in3x hf).2]; exact zt_thrown hP hS h1 h2 (by exact Or.inl ⟨rfl, rfl⟩)) hS.2.2 (Nat.le_of_ble_eq_true rfl) (Nat.le_of_ble_eq_true rfl)
  unfold f_X8_put at hf
  refine lv_iload_n hx hb dX8_put_0 rfl (lv_at hl 1 rfl) ?_
  refine lv_iload_n hx hb dX8_put_1 rfl (lv_at hl 2 rfl) ?_
  obtain ⟨e1, v1, σ2, hvv1, hzv1⟩ := zt_bx_some hf
  refine vx_callv (vx_runS (As := [.int x1, .int x2]) (rest := []) ⟨hx, hb, hml, hown, hts⟩ (m_X8_checkPlaceAndSort l hl2 G (σ := σ) hvv1) (va_cwS 2 hts gX8_put_X8_checkPlaceAndSort rfl rfl rfl zh_X8_checkPlaceAndSort ⟨Nat.le_of_ble_eq_true rfl, Nat.le_of_ble_eq_true rfl⟩) ⟨zt_blind2, fun U hU hW => ⟨rfl, zt_go2 hE hX hP hS hU hW⟩⟩ rfl rfl hl.1 rfl (lv_room (Nat.le_of_ble_eq_true rfl)) dX8_put_2 ⟨Nat.le_of_ble_eq_true rfl, Nat.le_of_ble_eq_true rfl⟩) hS (zt_dn hS) (zt_up hS) (zt_dn hS) (fun E ce q9 u t H locs ht hvm hw hB _ _ hS hce hcv hcl => ?_) (fun u t H locs ht hvm hw hB _ _ hS => ?_)
  · rcases hzv1 with ⟨h0, -⟩ | ⟨-, hf⟩
    · exact absurd h0 (zt_exc_ne hB.1)
    · refine vx_out (fun x hxx => (hnt x hxx).elim) hlocks hce hcv hcl (fun t2 ht2 hvm2 => ?_) hS.2.2 (Nat.le_of_ble_eq_true rfl) (Nat.le_of_ble_eq_true rfl)
      have hB2 := hB.2; rw [hw, ht] at hB2; rw [← (zt_in3x hf).1, ← (zt_in3x hf).2]; exact zt_passed hB2 hS ht2 hB.1
  rcases hzv1 with ⟨-, hf⟩ | ⟨h0, -⟩
  rotate_left
  · exact absurd hw.1 h0
  have hB : zt_B G u t := hB; rw [hw.2.2] at hB; have hP := zt_B.P hB ht
  refine W.cs (cells' := 1) (slots' := 6) rfl rfl ?_
  refine lv_iload_n hx hb dX8_put_5 rfl (lv_at hl 2 rfl) ?_
  refine lv_iload_n hx hb dX8_put_6 rfl (lv_at hl 3 rfl) ?_
  obtain ⟨v3, hvv3, hf⟩ := zt_bd_some hf
  refine va_calli (va_runS (As := [.int x2, .int x3]) (rest := []) ⟨hx, hb, hml, hown, hts⟩ (m_X8_isNumberOf l G (σ := σ2) hvv3) (va_cwS 2 hts gX8_put_X8_isNumberOf rfl rfl rfl zh_X8_isNumberOf ⟨Nat.le_of_ble_eq_true rfl, Nat.le_of_ble_eq_true rfl⟩) ⟨zt_blind, fun U hU hW => ⟨rfl, zt_go hE hP hS zt_id2 hU hW⟩⟩ rfl rfl hl.1 rfl (lv_room (Nat.le_of_ble_eq_true rfl)) dX8_put_7 ⟨Nat.le_of_ble_eq_true rfl, Nat.le_of_ble_eq_true rfl⟩) hS (fun _ _ h => Or.inl h) (fun _ h => Or.inl h) (fun r u t H locs ht hvm hw hB _ _ hS => ?_)
  rw [hw.1]; have hB : zt_B G u t := hB; rw [hw.2] at hB; have hP := zt_B.P hB ht
  refine W.cs (cells' := 1) (slots' := 6) rfl rfl ?_
  refine lv_if_eq (tgt := 21) hx hb dX8_put_10 (by decide) (fun c5 => ?_) (fun c5 => ?_)
  · have hf := (if_pos c5).symm.trans hf
    exact B21 σ2 _ _ _ hf hP hS (lv_sub hl [] rfl)
  · have hf := (if_neg c5).symm.trans hf
    refine lv_iload hx hb dX8_put_13 (lv_at hl 4 rfl) ?_
    obtain ⟨v6, hvv6, hf⟩ := zt_bd_some hf
    refine va_calli (va_runS (As := [.int x4]) (rest := []) ⟨hx, hb, hml, hown, hts⟩ (m_X8_isLife l G (σ := σ2) hvv6) (va_cwS 1 hts gX8_put_X8_isLife rfl rfl rfl zh_X8_isLife ⟨Nat.le_of_ble_eq_true rfl, Nat.le_of_ble_eq_true rfl⟩) ⟨zt_blind, fun U hU hW => ⟨rfl, zt_go hE hP hS zt_id2 hU hW⟩⟩ rfl rfl hl.1 rfl (lv_room (Nat.le_of_ble_eq_true rfl)) dX8_put_15 ⟨Nat.le_of_ble_eq_true rfl, Nat.le_of_ble_eq_true rfl⟩) hS (fun _ _ h => Or.inl h) (fun _ h => Or.inl h) (fun r u t H locs ht hvm hw hB _ _ hS => ?_)
    rw [hw.1]; have hB : zt_B G u t := hB; rw [hw.2] at hB; have hP := zt_B.P hB ht
    refine W.cs (cells' := 1) (slots' := 6) rfl rfl ?_
    refine lv_if_ne (tgt := 31) hx hb dX8_put_18 (by decide) (fun c8 => ?_) (fun c8 => ?_)
    · have hf := (if_neg c8).symm.trans hf
      refine lv_aload_n hx hb dX8_put_31 rfl (lv_at hl 0 rfl) ?_
      obtain ⟨e9, v9, σ10, hvv9, hzv9⟩ := zt_bx_some hf
      refine vx_callv (vx_runV (As := []) (rest := []) ⟨hx, hb, hml, hown, hts⟩ (m_X8_checkRoomToTell l hl2 G (σ := σ2) hvv9) (cwV 0 hts gX8_put_X8_checkRoomToTell rfl rfl rfl zh_X8_checkRoomToTell ⟨Nat.le_of_ble_eq_true rfl, Nat.le_of_ble_eq_true rfl⟩) ⟨zt_blind2, va_recv hK hP (ci := 7) (q0 := 0) rfl (zt_a7 (rfl : zt_kd 0 = 7)), fun U hU hW => ⟨rfl, zt_go2 hE hX hP hS hU hW⟩⟩ rfl rfl hl.1 rfl (lv_room (Nat.le_of_ble_eq_true rfl)) dX8_put_32 ⟨Nat.le_of_ble_eq_true rfl, Nat.le_of_ble_eq_true rfl⟩) hS (zt_dn hS) (zt_up hS) (zt_dn hS) (fun E ce q9 u t H locs ht hvm hw hB _ _ hS hce hcv hcl => ?_) (fun u t H locs ht hvm hw hB _ _ hS => ?_)
      · rcases hzv9 with ⟨h0, -⟩ | ⟨-, hf⟩
        · exact absurd h0 (zt_exc_ne hB.1)
        · refine vx_out (fun x hxx => (hnt x hxx).elim) hlocks hce hcv hcl (fun t2 ht2 hvm2 => ?_) hS.2.2 (Nat.le_of_ble_eq_true rfl) (Nat.le_of_ble_eq_true rfl)
          have hB2 := hB.2; rw [hw, ht] at hB2; rw [← (zt_in3x hf).1, ← (zt_in3x hf).2]; exact zt_passed hB2 hS ht2 hB.1
      rcases hzv9 with ⟨-, hf⟩ | ⟨h0, -⟩
      rotate_left
      · exact absurd hw.1 h0
      have hB : zt_B G u t := hB; rw [hw.2.2] at hB; have hP := zt_B.P hB ht
      refine W.cs (cells' := 2) (slots' := 12) rfl rfl ?_
      refine lv_aload_n hx hb dX8_put_35 rfl (lv_at hl 0 rfl) ?_
      refine va_get (D := zt_D G) (ci := 7) (v := .ref (zt_ad G 69)) (C := RX8) (T := TX8) (N := 5) hx hb hts inX8 hown hK hP 0 (zt_a7 (rfl : zt_kd 0 = 7)) rfl 1 (by decide) fl19 (fun _ h9 => h9) rfl dX8_put_36 ?_
      refine lv_iconst (v := 2) hx hb dX8_put_39 (by decide) ?_
      refine lv_iload_n hx hb dX8_put_40 rfl (lv_at hl 1 rfl) ?_
      refine lv_iload_n hx hb dX8_put_41 rfl (lv_at hl 2 rfl) ?_
      refine lv_iload_n hx hb dX8_put_42 rfl (lv_at hl 3 rfl) ?_
      refine lv_iload hx hb dX8_put_43 (lv_at hl 4 rfl) ?_
      obtain ⟨⟨v11a, σ12a⟩, hvv11, hf⟩ := zt_bd_some hf
      obtain ⟨v11, hv11, hf⟩ := zt_lt_some hf; obtain ⟨σ12, hσ12, hf⟩ := zt_lt_some hf; rw [show (v11a, σ12a) = (v11, σ12) from by rw [hv11, hσ12]] at hvv11
      refine va_calli (va_runV (As := [.int 2, .int x1, .int x2, .int x3, .int x4]) (rest := []) ⟨hx, hb, hml, hown, hts⟩ (m_X1_tell l G (σ := σ10) hvv11) (cwV 5 hts gX8_put_X1_tell rfl rfl rfl zh_X1_tell ⟨Nat.le_of_ble_eq_true rfl, Nat.le_of_ble_eq_true rfl⟩) ⟨zt_blind, va_recv hK hP (ci := 1) (q0 := 69) rfl (zt_a1 (rfl : zt_kd 69 = 1)), fun U hU hW => ⟨rfl, zt_go hE hP hS zt_id2 hU hW⟩⟩ rfl rfl hl.1 rfl (lv_room (Nat.le_of_ble_eq_true rfl)) dX8_put_45 ⟨Nat.le_of_ble_eq_true rfl, Nat.le_of_ble_eq_true rfl⟩) hS (fun _ _ h => Or.inl h) (fun _ h => Or.inl h) (fun r u t H locs ht hvm hw hB _ _ hS => ?_)
      rw [hw.1]; have hB : zt_B G u t := hB; rw [hw.2] at hB; have hP := zt_B.P hB ht
      refine W.cs (cells' := 2) (slots' := 12) rfl rfl ?_
      refine vx_ret ?_; refine W.widen (k := 3) (n := 18) (Nat.le_of_ble_eq_true rfl) (Nat.le_of_ble_eq_true rfl) ?_
      exact W.iret hx hb hr (fun t ht hW => ⟨⟨_, _, rfl, (zt_in3 hf), zt_go hE hP hS zt_id2 ht hW⟩, hS.F ht⟩) hS.2.2 dX8_put_48
    · have hf := (if_pos c8).symm.trans hf
      exact B21 σ2 _ _ _ hf hP hS (lv_sub hl [] rfl)

theorem zh_X8_drop : yX8_drop.cls = RX8 ∧ yX8_drop.cls ≠ "java/lang/invoke/MethodHandle" ∧ yX8_drop.cls ≠ "java/lang/invoke/VarHandle" ∧ (parseMethodDescriptor yX8_drop.desc).map (fun d => d.parameters.length) = some 2 := by decide +kernel
set_option maxHeartbeats 4000000 in
set_option maxRecDepth 100000 in
theorem m_X8_drop (l : Launch) (hl2 : l.stackTraces = false) (G : zt_G) {σ : zt_St} {x1 : Int32} {x2 : Int32} {c9 r : Int32} {σ1 : zt_St} {sz : Nat} (hf : f_X8_drop σ x1 x2 = some (c9, r, σ1)) : zt_MXi l G yX8_drop wsX8_drop 7 103 2 12 [.ref (zt_ad G 0), .int x1, .int x2] sz σ c9 r σ1 := by
  refine vx_ofW (cc := cX8_drop) (maxL := 3) (ret := (some .int)) (by decide) rfl ?_
  intro p e s m args below meth c s₁ B hml hnt hv
  obtain ⟨rfl, rfl, hBB, hX⟩ := hv
  have hE := zt_B.env hBB; have hK := hE.2.1; have hP := hBB.2.1
  have hx := B.exec; have hb := B.bytes; have hr := B.returns; have hts := atoms_spec (ws := wsX8_drop) B.pre
  have hown : s.vm.findClass RX8 = some m.cls := findClass_of_methodNamed B.named
  have hlocks := B.notSynchronized
  have hS : va_S (zt_A2 G s.heap.size) s.heap s.heap [] := va_S.rf
  have hl := lv_entry ([.ref (zt_ad G 0), .int x1, .int x2]) (n := 3) (Nat.le_of_ble_eq_true rfl)
  rw [lg_entry_eq]
  generalize (lg_sl ([.ref (zt_ad G 0), .int x1, .int x2]) ++ List.replicate (3 - (lg_sl ([.ref (zt_ad G 0), .int x1, .int x2])).length) Slot.unset).toArray = ls at hl ⊢
  have hl : lv_has ls 3 [(0, .ref (zt_ad G 0)), (1, .int x1), (2, .int x2)] := hl
  show W p l e (zt_RX 7 103 2 12) s m ([.ref (zt_ad G 0), .int x1, .int x2] : List Value).toArray below meth c s.heap [] 0 0 (vx_MQ below (zt_Yi G c9 r σ1 s.heap.size) (zt_XC G c9 σ1 s.heap.size) ([.ref (zt_ad G 0), .int x1, .int x2] : List Value).toArray s 2 12 (zt_A2 G s.heap.size)) (F0 m 0 ls [])
  have fl19 := hts (.fieldLink RX8 19 "ZoneTree" "changes" "LZoneTree$Changes;") (List.mem_cons_of_mem _ (List.mem_append_left _ (List.mem_append_left _ (List.mem_append_left _ (List.mem_append_left _ (List.mem_append_left _ (List.mem_of_getElem? (i := 0) rfl)))))))
  have inX8 : ∀ w ∈ wsX80, w ∈ wsX8_drop := fun w h => (List.mem_cons_of_mem _ (List.mem_append_left _ (List.mem_append_left _ (List.mem_append_left _ (List.mem_append_right _ h)))))
  unfold f_X8_drop at hf
  refine lv_iload_n hx hb dX8_drop_0 rfl (lv_at hl 1 rfl) ?_
  refine lv_iload_n hx hb dX8_drop_1 rfl (lv_at hl 2 rfl) ?_
  obtain ⟨e1, v1, σ2, hvv1, hzv1⟩ := zt_bx_some hf
  refine vx_callv (vx_runS (As := [.int x1, .int x2]) (rest := []) ⟨hx, hb, hml, hown, hts⟩ (m_X8_checkPlaceAndSort l hl2 G (σ := σ) hvv1) (va_cwS 2 hts gX8_drop_X8_checkPlaceAndSort rfl rfl rfl zh_X8_checkPlaceAndSort ⟨Nat.le_of_ble_eq_true rfl, Nat.le_of_ble_eq_true rfl⟩) ⟨zt_blind2, fun U hU hW => ⟨rfl, zt_go2 hE hX hP hS hU hW⟩⟩ rfl rfl hl.1 rfl (lv_room (Nat.le_of_ble_eq_true rfl)) dX8_drop_2 ⟨Nat.le_of_ble_eq_true rfl, Nat.le_of_ble_eq_true rfl⟩) hS (zt_dn hS) (zt_up hS) (zt_dn hS) (fun E ce q9 u t H locs ht hvm hw hB _ _ hS hce hcv hcl => ?_) (fun u t H locs ht hvm hw hB _ _ hS => ?_)
  · rcases hzv1 with ⟨h0, -⟩ | ⟨-, hf⟩
    · exact absurd h0 (zt_exc_ne hB.1)
    · refine vx_out (fun x hxx => (hnt x hxx).elim) hlocks hce hcv hcl (fun t2 ht2 hvm2 => ?_) hS.2.2 (Nat.le_of_ble_eq_true rfl) (Nat.le_of_ble_eq_true rfl)
      have hB2 := hB.2; rw [hw, ht] at hB2; rw [← (zt_in3x hf).1, ← (zt_in3x hf).2]; exact zt_passed hB2 hS ht2 hB.1
  rcases hzv1 with ⟨-, hf⟩ | ⟨h0, -⟩
  rotate_left
  · exact absurd hw.1 h0
  have hB : zt_B G u t := hB; rw [hw.2.2] at hB; have hP := zt_B.P hB ht
  refine W.cs (cells' := 1) (slots' := 6) rfl rfl ?_
  refine lv_aload_n hx hb dX8_drop_5 rfl (lv_at hl 0 rfl) ?_
  obtain ⟨e3, v3, σ4, hvv3, hzv3⟩ := zt_bx_some hf
  refine vx_callv (vx_runV (As := []) (rest := []) ⟨hx, hb, hml, hown, hts⟩ (m_X8_checkRoomToTell l hl2 G (σ := σ2) hvv3) (cwV 0 hts gX8_drop_X8_checkRoomToTell rfl rfl rfl zh_X8_checkRoomToTell ⟨Nat.le_of_ble_eq_true rfl, Nat.le_of_ble_eq_true rfl⟩) ⟨zt_blind2, va_recv hK hP (ci := 7) (q0 := 0) rfl (zt_a7 (rfl : zt_kd 0 = 7)), fun U hU hW => ⟨rfl, zt_go2 hE hX hP hS hU hW⟩⟩ rfl rfl hl.1 rfl (lv_room (Nat.le_of_ble_eq_true rfl)) dX8_drop_6 ⟨Nat.le_of_ble_eq_true rfl, Nat.le_of_ble_eq_true rfl⟩) hS (zt_dn hS) (zt_up hS) (zt_dn hS) (fun E ce q9 u t H locs ht hvm hw hB _ _ hS hce hcv hcl => ?_) (fun u t H locs ht hvm hw hB _ _ hS => ?_)
  · rcases hzv3 with ⟨h0, -⟩ | ⟨-, hf⟩
    · exact absurd h0 (zt_exc_ne hB.1)
    · refine vx_out (fun x hxx => (hnt x hxx).elim) hlocks hce hcv hcl (fun t2 ht2 hvm2 => ?_) hS.2.2 (Nat.le_of_ble_eq_true rfl) (Nat.le_of_ble_eq_true rfl)
      have hB2 := hB.2; rw [hw, ht] at hB2; rw [← (zt_in3x hf).1, ← (zt_in3x hf).2]; exact zt_passed hB2 hS ht2 hB.1
  rcases hzv3 with ⟨-, hf⟩ | ⟨h0, -⟩
  rotate_left
  · exact absurd hw.1 h0
  have hB : zt_B G u t := hB; rw [hw.2.2] at hB; have hP := zt_B.P hB ht
  refine W.cs (cells' := 2) (slots' := 12) rfl rfl ?_
  refine lv_aload_n hx hb dX8_drop_9 rfl (lv_at hl 0 rfl) ?_
  refine va_get (D := zt_D G) (ci := 7) (v := .ref (zt_ad G 69)) (C := RX8) (T := TX8) (N := 5) hx hb hts inX8 hown hK hP 0 (zt_a7 (rfl : zt_kd 0 = 7)) rfl 1 (by decide) fl19 (fun _ h9 => h9) rfl dX8_drop_10 ?_
  refine lv_iconst (v := 3) hx hb dX8_drop_13 (by decide) ?_
  refine lv_iload_n hx hb dX8_drop_14 rfl (lv_at hl 1 rfl) ?_
  refine lv_iload_n hx hb dX8_drop_15 rfl (lv_at hl 2 rfl) ?_
  refine lv_iconst (v := 0) hx hb dX8_drop_16 (by decide) ?_
  refine lv_iconst (v := 0) hx hb dX8_drop_17 (by decide) ?_
  obtain ⟨⟨v5a, σ6a⟩, hvv5, hf⟩ := zt_bd_some hf
  obtain ⟨v5, hv5, hf⟩ := zt_lt_some hf; obtain ⟨σ6, hσ6, hf⟩ := zt_lt_some hf; rw [show (v5a, σ6a) = (v5, σ6) from by rw [hv5, hσ6]] at hvv5
  refine va_calli (va_runV (As := [.int 3, .int x1, .int x2, .int 0, .int 0]) (rest := []) ⟨hx, hb, hml, hown, hts⟩ (m_X1_tell l G (σ := σ4) hvv5) (cwV 5 hts gX8_drop_X1_tell rfl rfl rfl zh_X1_tell ⟨Nat.le_of_ble_eq_true rfl, Nat.le_of_ble_eq_true rfl⟩) ⟨zt_blind, va_recv hK hP (ci := 1) (q0 := 69) rfl (zt_a1 (rfl : zt_kd 69 = 1)), fun U hU hW => ⟨rfl, zt_go hE hP hS zt_id2 hU hW⟩⟩ rfl rfl hl.1 rfl (lv_room (Nat.le_of_ble_eq_true rfl)) dX8_drop_18 ⟨Nat.le_of_ble_eq_true rfl, Nat.le_of_ble_eq_true rfl⟩) hS (fun _ _ h => Or.inl h) (fun _ h => Or.inl h) (fun r u t H locs ht hvm hw hB _ _ hS => ?_)
  rw [hw.1]; have hB : zt_B G u t := hB; rw [hw.2] at hB; have hP := zt_B.P hB ht
  refine W.cs (cells' := 2) (slots' := 12) rfl rfl ?_
  refine vx_ret ?_; refine W.widen (k := 2) (n := 12) (Nat.le_of_ble_eq_true rfl) (Nat.le_of_ble_eq_true rfl) ?_
  exact W.iret hx hb hr (fun t ht hW => ⟨⟨_, _, rfl, (zt_in3 hf), zt_go hE hP hS zt_id2 ht hW⟩, hS.F ht⟩) hS.2.2 dX8_drop_21

theorem zh_X8_checkZone : yX8_checkZone.cls = RX8 ∧ yX8_checkZone.cls ≠ "java/lang/invoke/MethodHandle" ∧ yX8_checkZone.cls ≠ "java/lang/invoke/VarHandle" ∧ (parseMethodDescriptor yX8_checkZone.desc).map (fun d => d.parameters.length) = some 1 := by decide +kernel
set_option maxHeartbeats 4000000 in
set_option maxRecDepth 100000 in
theorem m_X8_checkZone (l : Launch) (hl2 : l.stackTraces = false) (G : zt_G) {σ : zt_St} {x1 : Int32} {c9 r : Int32} {σ1 : zt_St} {sz : Nat} (hf : f_X8_checkZone σ x1 = some (c9, r, σ1)) : zt_MXv l G yX8_checkZone wsX8_checkZone 6 82 1 6 [.ref (zt_ad G 0), .int x1] sz σ c9 r σ1 := by
  refine vx_ofW (cc := cX8_checkZone) (maxL := 2) (ret := none) (by decide) rfl ?_
  intro p e s m args below meth c s₁ B hml hnt hv
  obtain ⟨rfl, rfl, hBB, hX⟩ := hv
  have hE := zt_B.env hBB; have hK := hE.2.1; have hP := hBB.2.1
  have hx := B.exec; have hb := B.bytes; have hr := B.returns; have hts := atoms_spec (ws := wsX8_checkZone) B.pre
  have hown : s.vm.findClass RX8 = some m.cls := findClass_of_methodNamed B.named
  have hlocks := B.notSynchronized
  have hS : va_S (zt_A2 G s.heap.size) s.heap s.heap [] := va_S.rf
  have hl := lv_entry ([.ref (zt_ad G 0), .int x1]) (n := 2) (Nat.le_of_ble_eq_true rfl)
  rw [lg_entry_eq]
  generalize (lg_sl ([.ref (zt_ad G 0), .int x1]) ++ List.replicate (2 - (lg_sl ([.ref (zt_ad G 0), .int x1])).length) Slot.unset).toArray = ls at hl ⊢
  have hl : lv_has ls 2 [(0, .ref (zt_ad G 0)), (1, .int x1)] := hl
  show W p l e (zt_RX 6 82 1 6) s m ([.ref (zt_ad G 0), .int x1] : List Value).toArray below meth c s.heap [] 0 0 (vx_MQ below (zt_Yv G c9 r σ1 s.heap.size) (zt_XC G c9 σ1 s.heap.size) ([.ref (zt_ad G 0), .int x1] : List Value).toArray s 1 6 (zt_A2 G s.heap.size)) (F0 m 0 ls [])
  have fl10 := hts (.fieldLink RX8 10 "ZoneTree" "zones" "LZoneTree$Zones;") (List.mem_cons_of_mem _ (List.mem_append_left _ (List.mem_append_left _ (List.mem_append_left _ (List.mem_of_getElem? (i := 2) rfl)))))
  have fl58 := zt_Nw.use (args := ([.ref (zt_ad G 0), .int x1] : List Value).toArray) hE.2.2.1 (q := ("ZoneTree", 58, "ZoneTree$Zones", "count", "I", "ZoneTree")) (List.mem_of_getElem? (i := 10) rfl)
  have inX7 : ∀ w ∈ wsX70, w ∈ wsX8_checkZone := fun w h => (List.mem_cons_of_mem _ (List.mem_append_left _ (List.mem_append_right _ h)))
  have inX8 : ∀ w ∈ wsX80, w ∈ wsX8_checkZone := fun w h => (List.mem_cons_of_mem _ (List.mem_append_left _ (List.mem_append_left _ (List.mem_append_right _ h))))
  have B15 : ∀ (σ : zt_St) (H : Heap) (locs : List Loc) (ls : Array Slot), f_X8_checkZone_15 σ = some (c9, r, σ1) → va_P (zt_D G) vwCl (zt_ww G σ) H → va_S (zt_A2 G s.heap.size) s.heap H locs → lv_has ls 2 [] → W p l e (zt_RX 6 82 1 6) s m ([.ref (zt_ad G 0), .int x1] : List Value).toArray below meth c H locs 0 0 (vx_MQ below (zt_Yv G c9 r σ1 s.heap.size) (zt_XC G c9 σ1 s.heap.size) ([.ref (zt_ad G 0), .int x1] : List Value).toArray s 1 6 (zt_A2 G s.heap.size)) (F0 m 15 ls []) := by
    intro σ H locs ls hf hP hS hl
    unfold f_X8_checkZone_15 at hf
    obtain ⟨sa, hsa⟩ := hX.2.2.1 _ (List.mem_of_getElem? (l := zt_xs) (i := 11) rfl)
    exact vx_throwS (cls := "java/lang/IndexOutOfBoundsException") (text := "there is no such zone") (names := ["java/lang/RuntimeException", "java/lang/Exception"]) (sa := sa) (A := zt_A2 G s.heap.size) hx hb hl2 hown (by decide +kernel) (by decide +kernel) (hts (.classLink RX8 209 "java/lang/IndexOutOfBoundsException") (List.mem_cons_of_mem _ (List.mem_append_left _ (List.mem_append_left _ (List.mem_append_left _ (List.mem_of_getElem? (i := 0) rfl)))))) (hts (.initialized "java/lang/IndexOutOfBoundsException") (List.mem_cons_of_mem _ (List.mem_append_left _ (List.mem_append_left _ (List.mem_append_left _ (List.mem_of_getElem? (i := 1) rfl)))))) hsa (zt_at3 hX (fun w h => hts w (List.mem_cons_of_mem _ (List.mem_append_right _ h)))) zt_gd3 (zt_Zqw hX.1 zt_A2n) (zt_Zqw hX.2.1 zt_A2n) hS (hl.1.trans hml.symm) dX8_checkZone_15 dX8_checkZone_18 dX8_checkZone_19 dX8_checkZone_21 dX8_checkZone_24 (fun x hxx => (hnt x hxx).elim) (Nat.le_of_ble_eq_true rfl) (Nat.le_of_ble_eq_true rfl) (Nat.le_of_ble_eq_true rfl) (Nat.le_of_ble_eq_true rfl) hlocks (fun t hvm9 h1 h2 => by rw [← (zt_in3x hf).1, ← (zt_in3x hf).2]; exact zt_thrown hP hS h1 h2 (by exact Or.inr (Or.inr ⟨rfl, rfl⟩))) hS.2.2 (Nat.le_of_ble_eq_true rfl) (Nat.le_of_ble_eq_true rfl)
  unfold f_X8_checkZone at hf
  refine lv_iload_n hx hb dX8_checkZone_0 rfl (lv_at hl 1 rfl) ?_
  refine lv_if_lt (tgt := 15) hx hb dX8_checkZone_1 (by decide) (fun c1 => ?_) (fun c1 => ?_)
  · have hf := (if_pos c1).symm.trans hf
    exact B15 σ _ _ _ hf hP hS (lv_sub hl [] rfl)
  · have hf := (if_neg c1).symm.trans hf
    refine lv_iload_n hx hb dX8_checkZone_4 rfl (lv_at hl 1 rfl) ?_
    refine lv_aload_n hx hb dX8_checkZone_5 rfl (lv_at hl 0 rfl) ?_
    refine va_get (D := zt_D G) (ci := 7) (v := .ref (zt_ad G 1)) (C := RX8) (T := TX8) (N := 5) hx hb hts inX8 hown hK hP 0 (zt_a7 (rfl : zt_kd 0 = 7)) rfl 0 (by decide) fl10 (fun _ h9 => h9) rfl dX8_checkZone_6 ?_
    refine va_getN (D := zt_D G) (ci := 6) (v := .int (σ 1 1)) (C := RX7) (T := TX7) (N := 2) hx hb hts inX7 hown hK hP 1 (zt_a6 (rfl : zt_kd 1 = 6)) rfl 1 (by decide) fl58 (fun _ h9 => h9) rfl dX8_checkZone_9 ?_
    refine lv_icmp_lt (tgt := 25) hx hb dX8_checkZone_12 (by decide) (fun c2 => ?_) (fun c2 => ?_)
    · have hf := (if_pos c2).symm.trans hf
      refine vx_ret ?_; refine W.widen (k := 1) (n := 6) (Nat.le_of_ble_eq_true rfl) (Nat.le_of_ble_eq_true rfl) ?_
      exact W.vret hx hb hr (fun t ht hW => ⟨⟨_, rfl, zt_in3 hf, zt_go hE hP hS zt_id2 ht hW⟩, hS.F ht⟩) hS.2.2 dX8_checkZone_25
    · have hf := (if_neg c2).symm.trans hf
      exact B15 σ _ _ _ hf hP hS (lv_sub hl [] rfl)

theorem zh_X8_update : yX8_update.cls = RX8 ∧ yX8_update.cls ≠ "java/lang/invoke/MethodHandle" ∧ yX8_update.cls ≠ "java/lang/invoke/VarHandle" ∧ (parseMethodDescriptor yX8_update.desc).map (fun d => d.parameters.length) = some 1 := by decide +kernel
set_option maxHeartbeats 4000000 in
set_option maxRecDepth 100000 in
theorem m_X8_update (l : Launch) (hl2 : l.stackTraces = false) (G : zt_G) {σ : zt_St} {x1 : Int32} {c9 r : Int32} {σ1 : zt_St} {sz : Nat} (hf : f_X8_update σ x1 = some (c9, r, σ1)) : zt_MXi l G yX8_update wsX8_update 7 117 1 6 [.ref (zt_ad G 0), .int x1] sz σ c9 r σ1 := by
  refine vx_ofW (cc := cX8_update) (maxL := 2) (ret := (some .boolean)) (by decide) rfl ?_
  intro p e s m args below meth c s₁ B hml hnt hv
  obtain ⟨rfl, rfl, hBB, hX⟩ := hv
  have hE := zt_B.env hBB; have hK := hE.2.1; have hP := hBB.2.1
  have hx := B.exec; have hb := B.bytes; have hr := B.returns; have hts := atoms_spec (ws := wsX8_update) B.pre
  have hown : s.vm.findClass RX8 = some m.cls := findClass_of_methodNamed B.named
  have hlocks := B.notSynchronized
  have hS : va_S (zt_A2 G s.heap.size) s.heap s.heap [] := va_S.rf
  have hl := lv_entry ([.ref (zt_ad G 0), .int x1]) (n := 2) (Nat.le_of_ble_eq_true rfl)
  rw [lg_entry_eq]
  generalize (lg_sl ([.ref (zt_ad G 0), .int x1]) ++ List.replicate (2 - (lg_sl ([.ref (zt_ad G 0), .int x1])).length) Slot.unset).toArray = ls at hl ⊢
  have hl : lv_has ls 2 [(0, .ref (zt_ad G 0)), (1, .int x1)] := hl
  show W p l e (zt_RX 7 117 1 6) s m ([.ref (zt_ad G 0), .int x1] : List Value).toArray below meth c s.heap [] 0 0 (vx_MQ below (zt_Yi G c9 r σ1 s.heap.size) (zt_XC G c9 σ1 s.heap.size) ([.ref (zt_ad G 0), .int x1] : List Value).toArray s 1 6 (zt_A2 G s.heap.size)) (F0 m 0 ls [])
  have fl10 := hts (.fieldLink RX8 10 "ZoneTree" "zones" "LZoneTree$Zones;") (List.mem_cons_of_mem _ (List.mem_append_left _ (List.mem_append_left _ (List.mem_append_left _ (List.mem_append_left _ (List.mem_append_left _ (List.mem_append_left _ (List.mem_append_left _ (List.mem_of_getElem? (i := 1) rfl)))))))))
  have fl19 := hts (.fieldLink RX8 19 "ZoneTree" "changes" "LZoneTree$Changes;") (List.mem_cons_of_mem _ (List.mem_append_left _ (List.mem_append_left _ (List.mem_append_left _ (List.mem_append_left _ (List.mem_append_left _ (List.mem_append_left _ (List.mem_append_left _ (List.mem_of_getElem? (i := 0) rfl)))))))))
  have inX8 : ∀ w ∈ wsX80, w ∈ wsX8_update := fun w h => (List.mem_cons_of_mem _ (List.mem_append_left _ (List.mem_append_left _ (List.mem_append_left _ (List.mem_append_left _ (List.mem_append_left _ (List.mem_append_right _ h)))))))
  unfold f_X8_update at hf
  refine lv_aload_n hx hb dX8_update_0 rfl (lv_at hl 0 rfl) ?_
  refine lv_iload_n hx hb dX8_update_1 rfl (lv_at hl 1 rfl) ?_
  obtain ⟨e1, v1, σ2, hvv1, hzv1⟩ := zt_bx_some hf
  refine vx_callv (vx_runV (As := [.int x1]) (rest := []) ⟨hx, hb, hml, hown, hts⟩ (m_X8_checkZone l hl2 G (σ := σ) hvv1) (cwV 1 hts gX8_update_X8_checkZone rfl rfl rfl zh_X8_checkZone ⟨Nat.le_of_ble_eq_true rfl, Nat.le_of_ble_eq_true rfl⟩) ⟨zt_blind2, va_recv hK hP (ci := 7) (q0 := 0) rfl (zt_a7 (rfl : zt_kd 0 = 7)), fun U hU hW => ⟨rfl, zt_go2 hE hX hP hS hU hW⟩⟩ rfl rfl hl.1 rfl (lv_room (Nat.le_of_ble_eq_true rfl)) dX8_update_2 ⟨Nat.le_of_ble_eq_true rfl, Nat.le_of_ble_eq_true rfl⟩) hS (zt_dn hS) (zt_up hS) (zt_dn hS) (fun E ce q9 u t H locs ht hvm hw hB _ _ hS hce hcv hcl => ?_) (fun u t H locs ht hvm hw hB _ _ hS => ?_)
  · rcases hzv1 with ⟨h0, -⟩ | ⟨-, hf⟩
    · exact absurd h0 (zt_exc_ne hB.1)
    · refine vx_out (fun x hxx => (hnt x hxx).elim) hlocks hce hcv hcl (fun t2 ht2 hvm2 => ?_) hS.2.2 (Nat.le_of_ble_eq_true rfl) (Nat.le_of_ble_eq_true rfl)
      have hB2 := hB.2; rw [hw, ht] at hB2; rw [← (zt_in3x hf).1, ← (zt_in3x hf).2]; exact zt_passed hB2 hS ht2 hB.1
  rcases hzv1 with ⟨-, hf⟩ | ⟨h0, -⟩
  rotate_left
  · exact absurd hw.1 h0
  have hB : zt_B G u t := hB; rw [hw.2.2] at hB; have hP := zt_B.P hB ht
  refine W.cs (cells' := 1) (slots' := 6) rfl rfl ?_
  refine lv_aload_n hx hb dX8_update_5 rfl (lv_at hl 0 rfl) ?_
  refine va_get (D := zt_D G) (ci := 7) (v := .ref (zt_ad G 69)) (C := RX8) (T := TX8) (N := 5) hx hb hts inX8 hown hK hP 0 (zt_a7 (rfl : zt_kd 0 = 7)) rfl 1 (by decide) fl19 (fun _ h9 => h9) rfl dX8_update_6 ?_
  refine lv_aload_n hx hb dX8_update_9 rfl (lv_at hl 0 rfl) ?_
  refine va_get (D := zt_D G) (ci := 7) (v := .ref (zt_ad G 1)) (C := RX8) (T := TX8) (N := 5) hx hb hts inX8 hown hK hP 0 (zt_a7 (rfl : zt_kd 0 = 7)) rfl 0 (by decide) fl10 (fun _ h9 => h9) rfl dX8_update_10 ?_
  refine lv_iload_n hx hb dX8_update_13 rfl (lv_at hl 1 rfl) ?_
  obtain ⟨z5, hvv3, hf⟩ := zt_bd_some hf; obtain ⟨g6, hf⟩ := zt_gd_some hf; have hz5 := of_decide_eq_true g6
  refine va_callr (va_runV (As := [.int x1]) (rest := [.ref (zt_ad G 69)]) ⟨hx, hb, hml, hown, hts⟩ (m_X7_at l G (σ := σ2) hvv3) (cwV 1 hts gX8_update_X7_at rfl rfl rfl zh_X7_at ⟨Nat.le_of_ble_eq_true rfl, Nat.le_of_ble_eq_true rfl⟩) ⟨zt_blind, va_recv hK hP (ci := 6) (q0 := 1) rfl (zt_a6 (rfl : zt_kd 1 = 6)), fun U hU hW => ⟨rfl, zt_go hE hP hS zt_id2 hU hW⟩⟩ rfl rfl hl.1 rfl (lv_room (Nat.le_of_ble_eq_true rfl)) dX8_update_14 ⟨Nat.le_of_ble_eq_true rfl, Nat.le_of_ble_eq_true rfl⟩) hS (fun _ _ h => Or.inl h) (fun _ h => Or.inl h) (fun u a t H locs ht hvm hw hB _ _ hS => ?_)
  rw [hB.1]; have hB : zt_B G u t := hB.2; rw [hw] at hB; have hP := zt_B.P hB ht
  refine W.cs (cells' := 1) (slots' := 6) rfl rfl ?_
  refine lv_aload_n hx hb dX8_update_17 rfl (lv_at hl 0 rfl) ?_
  refine va_get (D := zt_D G) (ci := 7) (v := .ref (zt_ad G 1)) (C := RX8) (T := TX8) (N := 5) hx hb hts inX8 hown hK hP 0 (zt_a7 (rfl : zt_kd 0 = 7)) rfl 0 (by decide) fl10 (fun _ h9 => h9) rfl dX8_update_18 ?_
  obtain ⟨⟨v7a, σ8a⟩, hvv7, hf⟩ := zt_bd_some hf
  obtain ⟨v7, hv7, hf⟩ := zt_lt_some hf; obtain ⟨σ8, hσ8, hf⟩ := zt_lt_some hf; rw [show (v7a, σ8a) = (v7, σ8) from by rw [hv7, hσ8]] at hvv7
  refine va_calli (va_runV (As := [.ref (zt_ad G z5), .ref (zt_ad G 1)]) (rest := []) ⟨hx, hb, hml, hown, hts⟩ (m_X1_doTo l G hz5 (σ := σ2) hvv7) (cwV 2 hts gX8_update_X1_doTo rfl rfl rfl zh_X1_doTo ⟨Nat.le_of_ble_eq_true rfl, Nat.le_of_ble_eq_true rfl⟩) ⟨zt_blind, va_recv hK hP (ci := 1) (q0 := 69) rfl (zt_a1 (rfl : zt_kd 69 = 1)), fun U hU hW => ⟨rfl, zt_go hE hP hS zt_id2 hU hW⟩⟩ rfl rfl hl.1 rfl (lv_room (Nat.le_of_ble_eq_true rfl)) dX8_update_21 ⟨Nat.le_of_ble_eq_true rfl, Nat.le_of_ble_eq_true rfl⟩) hS (fun _ _ h => Or.inl h) (fun _ h => Or.inl h) (fun r u t H locs ht hvm hw hB _ _ hS => ?_)
  rw [hw.1]; have hB : zt_B G u t := hB; rw [hw.2] at hB; have hP := zt_B.P hB ht
  refine W.cs (cells' := 1) (slots' := 6) rfl rfl ?_
  obtain ⟨g10, hf⟩ := zt_gd_some hf
  refine vx_ret ?_; refine W.widen (k := 1) (n := 6) (Nat.le_of_ble_eq_true rfl) (Nat.le_of_ble_eq_true rfl) ?_
  exact W.zret hx hb hr (zt_bn g10).1 (fun t ht hW => ⟨⟨_, _, rfl, (zt_in3 hf), zt_go hE hP hS zt_id2 ht hW⟩, hS.F ht⟩) hS.2.2 dX8_update_24

theorem zh_X8_zoneHas : yX8_zoneHas.cls = RX8 ∧ yX8_zoneHas.cls ≠ "java/lang/invoke/MethodHandle" ∧ yX8_zoneHas.cls ≠ "java/lang/invoke/VarHandle" ∧ (parseMethodDescriptor yX8_zoneHas.desc).map (fun d => d.parameters.length) = some 2 := by decide +kernel
set_option maxHeartbeats 4000000 in
set_option maxRecDepth 100000 in
theorem m_X8_zoneHas (l : Launch) (hl2 : l.stackTraces = false) (G : zt_G) {σ : zt_St} {x1 : Int32} {x2 : Int32} {c9 r : Int32} {σ1 : zt_St} {sz : Nat} (hf : f_X8_zoneHas σ x1 x2 = some (c9, r, σ1)) : zt_MXi l G yX8_zoneHas wsX8_zoneHas 7 116 2 12 [.ref (zt_ad G 0), .int x1, .int x2] sz σ c9 r σ1 := by
  refine vx_ofW (cc := cX8_zoneHas) (maxL := 3) (ret := (some .int)) (by decide) rfl ?_
  intro p e s m args below meth c s₁ B hml hnt hv
  obtain ⟨rfl, rfl, hBB, hX⟩ := hv
  have hE := zt_B.env hBB; have hK := hE.2.1; have hP := hBB.2.1
  have hx := B.exec; have hb := B.bytes; have hr := B.returns; have hts := atoms_spec (ws := wsX8_zoneHas) B.pre
  have hown : s.vm.findClass RX8 = some m.cls := findClass_of_methodNamed B.named
  have hlocks := B.notSynchronized
  have hS : va_S (zt_A2 G s.heap.size) s.heap s.heap [] := va_S.rf
  have hl := lv_entry ([.ref (zt_ad G 0), .int x1, .int x2]) (n := 3) (Nat.le_of_ble_eq_true rfl)
  rw [lg_entry_eq]
  generalize (lg_sl ([.ref (zt_ad G 0), .int x1, .int x2]) ++ List.replicate (3 - (lg_sl ([.ref (zt_ad G 0), .int x1, .int x2])).length) Slot.unset).toArray = ls at hl ⊢
  have hl : lv_has ls 3 [(0, .ref (zt_ad G 0)), (1, .int x1), (2, .int x2)] := hl
  show W p l e (zt_RX 7 116 2 12) s m ([.ref (zt_ad G 0), .int x1, .int x2] : List Value).toArray below meth c s.heap [] 0 0 (vx_MQ below (zt_Yi G c9 r σ1 s.heap.size) (zt_XC G c9 σ1 s.heap.size) ([.ref (zt_ad G 0), .int x1, .int x2] : List Value).toArray s 2 12 (zt_A2 G s.heap.size)) (F0 m 0 ls [])
  have fl10 := hts (.fieldLink RX8 10 "ZoneTree" "zones" "LZoneTree$Zones;") (List.mem_cons_of_mem _ (List.mem_append_left _ (List.mem_append_left _ (List.mem_append_left _ (List.mem_append_left _ (List.mem_append_left _ (List.mem_append_left _ (List.mem_append_left _ (List.mem_of_getElem? (i := 2) rfl)))))))))
  have inX8 : ∀ w ∈ wsX80, w ∈ wsX8_zoneHas := fun w h => (List.mem_cons_of_mem _ (List.mem_append_left _ (List.mem_append_left _ (List.mem_append_left _ (List.mem_append_left _ (List.mem_append_left _ (List.mem_append_right _ h)))))))
  have B14 : ∀ (σ : zt_St) (H : Heap) (locs : List Loc) (ls : Array Slot), f_X8_zoneHas_14 σ = some (c9, r, σ1) → va_P (zt_D G) vwCl (zt_ww G σ) H → va_S (zt_A2 G s.heap.size) s.heap H locs → lv_has ls 3 [] → W p l e (zt_RX 7 116 2 12) s m ([.ref (zt_ad G 0), .int x1, .int x2] : List Value).toArray below meth c H locs 1 6 (vx_MQ below (zt_Yi G c9 r σ1 s.heap.size) (zt_XC G c9 σ1 s.heap.size) ([.ref (zt_ad G 0), .int x1, .int x2] : List Value).toArray s 2 12 (zt_A2 G s.heap.size)) (F0 m 14 ls []) := by
    intro σ H locs ls hf hP hS hl
    unfold f_X8_zoneHas_14 at hf
    obtain ⟨sa, hsa⟩ := hX.2.2.1 _ (List.mem_of_getElem? (l := zt_xs) (i := 3) rfl)
    exact vx_throwS (cls := "java/lang/IllegalArgumentException") (text := "what is asked of a zone is out of range") (names := ["java/lang/RuntimeException", "java/lang/Exception"]) (sa := sa) (A := zt_A2 G s.heap.size) hx hb hl2 hown (by decide +kernel) (by decide +kernel) (hts (.classLink RX8 51 "java/lang/IllegalArgumentException") (List.mem_cons_of_mem _ (List.mem_append_left _ (List.mem_append_left _ (List.mem_append_left _ (List.mem_append_left _ (List.mem_append_left _ (List.mem_append_left _ (List.mem_append_left _ (List.mem_of_getElem? (i := 0) rfl)))))))))) (hts (.initialized "java/lang/IllegalArgumentException") (List.mem_cons_of_mem _ (List.mem_append_left _ (List.mem_append_left _ (List.mem_append_left _ (List.mem_append_left _ (List.mem_append_left _ (List.mem_append_left _ (List.mem_append_left _ (List.mem_of_getElem? (i := 1) rfl)))))))))) hsa (zt_at1 hX (fun w h => hts w (List.mem_cons_of_mem _ (List.mem_append_left _ (List.mem_append_right _ h))))) zt_gd1 (zt_Zqw hX.1 zt_A2n) (zt_Zqw hX.2.1 zt_A2n) hS (hl.1.trans hml.symm) dX8_zoneHas_14 dX8_zoneHas_17 dX8_zoneHas_18 dX8_zoneHas_20 dX8_zoneHas_23 (fun x hxx => (hnt x hxx).elim) (Nat.le_of_ble_eq_true rfl) (Nat.le_of_ble_eq_true rfl) (Nat.le_of_ble_eq_true rfl) (Nat.le_of_ble_eq_true rfl) hlocks (fun t hvm9 h1 h2 => by rw [← (zt_in3x hf).1, ← (zt_in3x hf).2]; exact zt_thrown hP hS h1 h2 (by exact Or.inl ⟨rfl, rfl⟩)) hS.2.2 (Nat.le_of_ble_eq_true rfl) (Nat.le_of_ble_eq_true rfl)
  unfold f_X8_zoneHas at hf
  refine lv_aload_n hx hb dX8_zoneHas_0 rfl (lv_at hl 0 rfl) ?_
  refine lv_iload_n hx hb dX8_zoneHas_1 rfl (lv_at hl 1 rfl) ?_
  obtain ⟨e1, v1, σ2, hvv1, hzv1⟩ := zt_bx_some hf
  refine vx_callv (vx_runV (As := [.int x1]) (rest := []) ⟨hx, hb, hml, hown, hts⟩ (m_X8_checkZone l hl2 G (σ := σ) hvv1) (cwV 1 hts gX8_zoneHas_X8_checkZone rfl rfl rfl zh_X8_checkZone ⟨Nat.le_of_ble_eq_true rfl, Nat.le_of_ble_eq_true rfl⟩) ⟨zt_blind2, va_recv hK hP (ci := 7) (q0 := 0) rfl (zt_a7 (rfl : zt_kd 0 = 7)), fun U hU hW => ⟨rfl, zt_go2 hE hX hP hS hU hW⟩⟩ rfl rfl hl.1 rfl (lv_room (Nat.le_of_ble_eq_true rfl)) dX8_zoneHas_2 ⟨Nat.le_of_ble_eq_true rfl, Nat.le_of_ble_eq_true rfl⟩) hS (zt_dn hS) (zt_up hS) (zt_dn hS) (fun E ce q9 u t H locs ht hvm hw hB _ _ hS hce hcv hcl => ?_) (fun u t H locs ht hvm hw hB _ _ hS => ?_)
  · rcases hzv1 with ⟨h0, -⟩ | ⟨-, hf⟩
    · exact absurd h0 (zt_exc_ne hB.1)
    · refine vx_out (fun x hxx => (hnt x hxx).elim) hlocks hce hcv hcl (fun t2 ht2 hvm2 => ?_) hS.2.2 (Nat.le_of_ble_eq_true rfl) (Nat.le_of_ble_eq_true rfl)
      have hB2 := hB.2; rw [hw, ht] at hB2; rw [← (zt_in3x hf).1, ← (zt_in3x hf).2]; exact zt_passed hB2 hS ht2 hB.1
  rcases hzv1 with ⟨-, hf⟩ | ⟨h0, -⟩
  rotate_left
  · exact absurd hw.1 h0
  have hB : zt_B G u t := hB; rw [hw.2.2] at hB; have hP := zt_B.P hB ht
  refine W.cs (cells' := 1) (slots' := 6) rfl rfl ?_
  refine lv_iload_n hx hb dX8_zoneHas_5 rfl (lv_at hl 2 rfl) ?_
  refine lv_if_lt (tgt := 14) hx hb dX8_zoneHas_6 (by decide) (fun c3 => ?_) (fun c3 => ?_)
  · have hf := (if_pos c3).symm.trans hf
    exact B14 σ2 _ _ _ hf hP hS (lv_sub hl [] rfl)
  · have hf := (if_neg c3).symm.trans hf
    refine lv_iload_n hx hb dX8_zoneHas_9 rfl (lv_at hl 2 rfl) ?_
    refine lv_iconst (v := 4) hx hb dX8_zoneHas_10 (by decide) ?_
    refine lv_icmp_le (tgt := 24) hx hb dX8_zoneHas_11 (by decide) (fun c4 => ?_) (fun c4 => ?_)
    · have hf := (if_pos c4).symm.trans hf
      refine lv_aload_n hx hb dX8_zoneHas_24 rfl (lv_at hl 0 rfl) ?_
      refine va_get (D := zt_D G) (ci := 7) (v := .ref (zt_ad G 1)) (C := RX8) (T := TX8) (N := 5) hx hb hts inX8 hown hK hP 0 (zt_a7 (rfl : zt_kd 0 = 7)) rfl 0 (by decide) fl10 (fun _ h9 => h9) rfl dX8_zoneHas_25 ?_
      refine lv_iload_n hx hb dX8_zoneHas_28 rfl (lv_at hl 1 rfl) ?_
      obtain ⟨z7, hvv5, hf⟩ := zt_bd_some hf; obtain ⟨g8, hf⟩ := zt_gd_some hf; have hz7 := of_decide_eq_true g8
      refine va_callr (va_runV (As := [.int x1]) (rest := []) ⟨hx, hb, hml, hown, hts⟩ (m_X7_at l G (σ := σ2) hvv5) (cwV 1 hts gX8_zoneHas_X7_at rfl rfl rfl zh_X7_at ⟨Nat.le_of_ble_eq_true rfl, Nat.le_of_ble_eq_true rfl⟩) ⟨zt_blind, va_recv hK hP (ci := 6) (q0 := 1) rfl (zt_a6 (rfl : zt_kd 1 = 6)), fun U hU hW => ⟨rfl, zt_go hE hP hS zt_id2 hU hW⟩⟩ rfl rfl hl.1 rfl (lv_room (Nat.le_of_ble_eq_true rfl)) dX8_zoneHas_29 ⟨Nat.le_of_ble_eq_true rfl, Nat.le_of_ble_eq_true rfl⟩) hS (fun _ _ h => Or.inl h) (fun _ h => Or.inl h) (fun u a t H locs ht hvm hw hB _ _ hS => ?_)
      rw [hB.1]; have hB : zt_B G u t := hB.2; rw [hw] at hB; have hP := zt_B.P hB ht
      refine W.cs (cells' := 1) (slots' := 6) rfl rfl ?_
      refine lv_iload_n hx hb dX8_zoneHas_32 rfl (lv_at hl 2 rfl) ?_
      obtain ⟨v9, hvv9, hf⟩ := zt_bd_some hf
      refine va_calli (va_runV (As := [.int x2]) (rest := []) ⟨hx, hb, hml, hown, hts⟩ (m_X6_detail l G hz7 (σ := σ2) hvv9) (cwV 1 hts gX8_zoneHas_X6_detail rfl rfl rfl zh_X6_detail ⟨Nat.le_of_ble_eq_true rfl, Nat.le_of_ble_eq_true rfl⟩) ⟨zt_blind, va_recv hK hP (ci := 5) (q0 := z7) rfl (zt_a5 hz7), fun U hU hW => ⟨rfl, zt_go hE hP hS zt_id2 hU hW⟩⟩ rfl rfl hl.1 rfl (lv_room (Nat.le_of_ble_eq_true rfl)) dX8_zoneHas_33 ⟨Nat.le_of_ble_eq_true rfl, Nat.le_of_ble_eq_true rfl⟩) hS (fun _ _ h => Or.inl h) (fun _ h => Or.inl h) (fun r u t H locs ht hvm hw hB _ _ hS => ?_)
      rw [hw.1]; have hB : zt_B G u t := hB; rw [hw.2] at hB; have hP := zt_B.P hB ht
      refine W.cs (cells' := 1) (slots' := 6) rfl rfl ?_
      refine vx_ret ?_; refine W.widen (k := 2) (n := 12) (Nat.le_of_ble_eq_true rfl) (Nat.le_of_ble_eq_true rfl) ?_
      exact W.iret hx hb hr (fun t ht hW => ⟨⟨_, _, rfl, (zt_in3 hf), zt_go hE hP hS zt_id2 ht hW⟩, hS.F ht⟩) hS.2.2 dX8_zoneHas_36
    · have hf := (if_neg c4).symm.trans hf
      exact B14 σ2 _ _ _ hf hP hS (lv_sub hl [] rfl)

theorem zh_X8_record : yX8_record.cls = RX8 ∧ yX8_record.cls ≠ "java/lang/invoke/MethodHandle" ∧ yX8_record.cls ≠ "java/lang/invoke/VarHandle" ∧ (parseMethodDescriptor yX8_record.desc).map (fun d => d.parameters.length) = some 3 := by decide +kernel
set_option maxHeartbeats 4000000 in
set_option maxRecDepth 100000 in
theorem m_X8_record (l : Launch) (hl2 : l.stackTraces = false) (G : zt_G) {σ : zt_St} {x1 : Int32} {x2 : Int32} {x3 : Int32} {c9 r : Int32} {σ1 : zt_St} {sz : Nat} (hf : f_X8_record σ x1 x2 x3 = some (c9, r, σ1)) : zt_MXi l G yX8_record wsX8_record 7 103 2 12 [.ref (zt_ad G 0), .int x1, .int x2, .int x3] sz σ c9 r σ1 := by
  refine vx_ofW (cc := cX8_record) (maxL := 5) (ret := (some .int)) (by decide) rfl ?_
  intro p e s m args below meth c s₁ B hml hnt hv
  obtain ⟨rfl, rfl, hBB, hX⟩ := hv
  have hE := zt_B.env hBB; have hK := hE.2.1; have hP := hBB.2.1
  have hx := B.exec; have hb := B.bytes; have hr := B.returns; have hts := atoms_spec (ws := wsX8_record) B.pre
  have hown : s.vm.findClass RX8 = some m.cls := findClass_of_methodNamed B.named
  have hlocks := B.notSynchronized
  have hS : va_S (zt_A2 G s.heap.size) s.heap s.heap [] := va_S.rf
  have hl := lv_entry ([.ref (zt_ad G 0), .int x1, .int x2, .int x3]) (n := 5) (Nat.le_of_ble_eq_true rfl)
  rw [lg_entry_eq]
  generalize (lg_sl ([.ref (zt_ad G 0), .int x1, .int x2, .int x3]) ++ List.replicate (5 - (lg_sl ([.ref (zt_ad G 0), .int x1, .int x2, .int x3])).length) Slot.unset).toArray = ls at hl ⊢
  have hl : lv_has ls 5 [(0, .ref (zt_ad G 0)), (1, .int x1), (2, .int x2), (3, .int x3)] := hl
  show W p l e (zt_RX 7 103 2 12) s m ([.ref (zt_ad G 0), .int x1, .int x2, .int x3] : List Value).toArray below meth c s.heap [] 0 0 (vx_MQ below (zt_Yi G c9 r σ1 s.heap.size) (zt_XC G c9 σ1 s.heap.size) ([.ref (zt_ad G 0), .int x1, .int x2, .int x3] : List Value).toArray s 2 12 (zt_A2 G s.heap.size)) (F0 m 0 ls [])
  have fl10 := hts (.fieldLink RX8 10 "ZoneTree" "zones" "LZoneTree$Zones;") (List.mem_cons_of_mem _ (List.mem_append_left _ (List.mem_append_left _ (List.mem_append_left _ (List.mem_append_left _ (List.mem_append_left _ (List.mem_append_left _ (List.mem_append_left _ (List.mem_of_getElem? (i := 0) rfl)))))))))
  have fl111 := zt_Nw.use (args := ([.ref (zt_ad G 0), .int x1, .int x2, .int x3] : List Value).toArray) hE.2.2.1 (q := ("ZoneTree", 111, "ZoneTree$Zone", "records", "LZoneTree$Records;", "ZoneTree")) (List.mem_of_getElem? (i := 9) rfl)
  have inX6 : ∀ w ∈ wsX60, w ∈ wsX8_record := fun w h => (List.mem_cons_of_mem _ (List.mem_append_left _ (List.mem_append_left _ (List.mem_append_left _ (List.mem_append_left _ (List.mem_append_right _ h))))))
  have inX8 : ∀ w ∈ wsX80, w ∈ wsX8_record := fun w h => (List.mem_cons_of_mem _ (List.mem_append_left _ (List.mem_append_left _ (List.mem_append_left _ (List.mem_append_left _ (List.mem_append_left _ (List.mem_append_right _ h)))))))
  unfold f_X8_record at hf
  refine lv_aload_n hx hb dX8_record_0 rfl (lv_at hl 0 rfl) ?_
  refine lv_iload_n hx hb dX8_record_1 rfl (lv_at hl 1 rfl) ?_
  obtain ⟨e1, v1, σ2, hvv1, hzv1⟩ := zt_bx_some hf
  refine vx_callv (vx_runV (As := [.int x1]) (rest := []) ⟨hx, hb, hml, hown, hts⟩ (m_X8_checkZone l hl2 G (σ := σ) hvv1) (cwV 1 hts gX8_record_X8_checkZone rfl rfl rfl zh_X8_checkZone ⟨Nat.le_of_ble_eq_true rfl, Nat.le_of_ble_eq_true rfl⟩) ⟨zt_blind2, va_recv hK hP (ci := 7) (q0 := 0) rfl (zt_a7 (rfl : zt_kd 0 = 7)), fun U hU hW => ⟨rfl, zt_go2 hE hX hP hS hU hW⟩⟩ rfl rfl hl.1 rfl (lv_room (Nat.le_of_ble_eq_true rfl)) dX8_record_2 ⟨Nat.le_of_ble_eq_true rfl, Nat.le_of_ble_eq_true rfl⟩) hS (zt_dn hS) (zt_up hS) (zt_dn hS) (fun E ce q9 u t H locs ht hvm hw hB _ _ hS hce hcv hcl => ?_) (fun u t H locs ht hvm hw hB _ _ hS => ?_)
  · rcases hzv1 with ⟨h0, -⟩ | ⟨-, hf⟩
    · exact absurd h0 (zt_exc_ne hB.1)
    · refine vx_out (fun x hxx => (hnt x hxx).elim) hlocks hce hcv hcl (fun t2 ht2 hvm2 => ?_) hS.2.2 (Nat.le_of_ble_eq_true rfl) (Nat.le_of_ble_eq_true rfl)
      have hB2 := hB.2; rw [hw, ht] at hB2; rw [← (zt_in3x hf).1, ← (zt_in3x hf).2]; exact zt_passed hB2 hS ht2 hB.1
  rcases hzv1 with ⟨-, hf⟩ | ⟨h0, -⟩
  rotate_left
  · exact absurd hw.1 h0
  have hB : zt_B G u t := hB; rw [hw.2.2] at hB; have hP := zt_B.P hB ht
  refine W.cs (cells' := 1) (slots' := 6) rfl rfl ?_
  refine lv_iload_n hx hb dX8_record_5 rfl (lv_at hl 2 rfl) ?_
  refine lv_iload_n hx hb dX8_record_6 rfl (lv_at hl 3 rfl) ?_
  obtain ⟨e3, v3, σ4, hvv3, hzv3⟩ := zt_bx_some hf
  refine vx_callv (vx_runS (As := [.int x2, .int x3]) (rest := []) ⟨hx, hb, hml, hown, hts⟩ (m_X8_checkPlaceAndSort l hl2 G (σ := σ2) hvv3) (va_cwS 2 hts gX8_record_X8_checkPlaceAndSort rfl rfl rfl zh_X8_checkPlaceAndSort ⟨Nat.le_of_ble_eq_true rfl, Nat.le_of_ble_eq_true rfl⟩) ⟨zt_blind2, fun U hU hW => ⟨rfl, zt_go2 hE hX hP hS hU hW⟩⟩ rfl rfl hl.1 rfl (lv_room (Nat.le_of_ble_eq_true rfl)) dX8_record_7 ⟨Nat.le_of_ble_eq_true rfl, Nat.le_of_ble_eq_true rfl⟩) hS (zt_dn hS) (zt_up hS) (zt_dn hS) (fun E ce q9 u t H locs ht hvm hw hB _ _ hS hce hcv hcl => ?_) (fun u t H locs ht hvm hw hB _ _ hS => ?_)
  · rcases hzv3 with ⟨h0, -⟩ | ⟨-, hf⟩
    · exact absurd h0 (zt_exc_ne hB.1)
    · refine vx_out (fun x hxx => (hnt x hxx).elim) hlocks hce hcv hcl (fun t2 ht2 hvm2 => ?_) hS.2.2 (Nat.le_of_ble_eq_true rfl) (Nat.le_of_ble_eq_true rfl)
      have hB2 := hB.2; rw [hw, ht] at hB2; rw [← (zt_in3x hf).1, ← (zt_in3x hf).2]; exact zt_passed hB2 hS ht2 hB.1
  rcases hzv3 with ⟨-, hf⟩ | ⟨h0, -⟩
  rotate_left
  · exact absurd hw.1 h0
  have hB : zt_B G u t := hB; rw [hw.2.2] at hB; have hP := zt_B.P hB ht
  refine W.cs (cells' := 2) (slots' := 12) rfl rfl ?_
  refine lv_aload_n hx hb dX8_record_10 rfl (lv_at hl 0 rfl) ?_
  refine va_get (D := zt_D G) (ci := 7) (v := .ref (zt_ad G 1)) (C := RX8) (T := TX8) (N := 5) hx hb hts inX8 hown hK hP 0 (zt_a7 (rfl : zt_kd 0 = 7)) rfl 0 (by decide) fl10 (fun _ h9 => h9) rfl dX8_record_11 ?_
  refine lv_iload_n hx hb dX8_record_14 rfl (lv_at hl 1 rfl) ?_
  obtain ⟨z7, hvv5, hf⟩ := zt_bd_some hf; obtain ⟨g8, hf⟩ := zt_gd_some hf; have hz7 := of_decide_eq_true g8
  refine va_callr (va_runV (As := [.int x1]) (rest := []) ⟨hx, hb, hml, hown, hts⟩ (m_X7_at l G (σ := σ4) hvv5) (cwV 1 hts gX8_record_X7_at rfl rfl rfl zh_X7_at ⟨Nat.le_of_ble_eq_true rfl, Nat.le_of_ble_eq_true rfl⟩) ⟨zt_blind, va_recv hK hP (ci := 6) (q0 := 1) rfl (zt_a6 (rfl : zt_kd 1 = 6)), fun U hU hW => ⟨rfl, zt_go hE hP hS zt_id2 hU hW⟩⟩ rfl rfl hl.1 rfl (lv_room (Nat.le_of_ble_eq_true rfl)) dX8_record_15 ⟨Nat.le_of_ble_eq_true rfl, Nat.le_of_ble_eq_true rfl⟩) hS (fun _ _ h => Or.inl h) (fun _ h => Or.inl h) (fun u a t H locs ht hvm hw hB _ _ hS => ?_)
  rw [hB.1]; have hB : zt_B G u t := hB.2; rw [hw] at hB; have hP := zt_B.P hB ht
  refine W.cs (cells' := 2) (slots' := 12) rfl rfl ?_
  refine va_getN (D := zt_D G) (ci := 5) (v := .ref (zt_ad G (z7 + 1))) (C := RX6) (T := TX6) (N := 11) hx hb hts inX6 hown hK hP z7 (zt_a5 hz7) rfl 9 (by decide) fl111 (fun _ h9 => h9) rfl dX8_record_18 ?_
  refine lv_astore (lv' := [(4, .ref (zt_ad G (z7 + 1))), (0, .ref (zt_ad G 0)), (1, .int x1), (2, .int x2), (3, .int x3)]) hx hb dX8_record_21 hl (by decide) rfl (fun ls hl => ?_)
  refine lv_aload hx hb dX8_record_23 (lv_at hl 0 rfl) ?_
  refine lv_aload hx hb dX8_record_25 (lv_at hl 0 rfl) ?_
  refine lv_iload_n hx hb dX8_record_27 rfl (lv_at hl 3 rfl) ?_
  refine lv_iload_n hx hb dX8_record_28 rfl (lv_at hl 4 rfl) ?_
  obtain ⟨v9, hvv9, hf⟩ := zt_bd_some hf
  refine va_calli (va_runV (As := [.int x2, .int x3]) (rest := [.ref (zt_ad G (z7 + 1))]) ⟨hx, hb, hml, hown, hts⟩ (m_X4_rowOf l G (zt_k5_9 hz7) (σ := σ4) hvv9) (cwV 2 hts gX8_record_X4_rowOf rfl rfl rfl zh_X4_rowOf ⟨Nat.le_of_ble_eq_true rfl, Nat.le_of_ble_eq_true rfl⟩) ⟨zt_blind, va_recv hK hP (ci := 3) (q0 := (z7 + 1)) rfl (zt_a3 (zt_k5_9 hz7)), fun U hU hW => ⟨rfl, zt_go hE hP hS zt_id2 hU hW⟩⟩ rfl rfl hl.1 rfl (lv_room (Nat.le_of_ble_eq_true rfl)) dX8_record_29 ⟨Nat.le_of_ble_eq_true rfl, Nat.le_of_ble_eq_true rfl⟩) hS (fun _ _ h => Or.inl h) (fun _ h => Or.inl h) (fun r u t H locs ht hvm hw hB _ _ hS => ?_)
  rw [hw.1]; have hB : zt_B G u t := hB; rw [hw.2] at hB; have hP := zt_B.P hB ht
  refine W.cs (cells' := 2) (slots' := 12) rfl rfl ?_
  obtain ⟨v11, hvv11, hf⟩ := zt_bd_some hf
  refine va_calli (va_runV (As := [.int v9]) (rest := []) ⟨hx, hb, hml, hown, hts⟩ (m_X4_numberAt l G (zt_k5_9 hz7) (σ := σ4) hvv11) (cwV 1 hts gX8_record_X4_numberAt rfl rfl rfl zh_X4_numberAt ⟨Nat.le_of_ble_eq_true rfl, Nat.le_of_ble_eq_true rfl⟩) ⟨zt_blind, va_recv hK hP (ci := 3) (q0 := (z7 + 1)) rfl (zt_a3 (zt_k5_9 hz7)), fun U hU hW => ⟨rfl, zt_go hE hP hS zt_id2 hU hW⟩⟩ rfl rfl hl.1 rfl (lv_room (Nat.le_of_ble_eq_true rfl)) dX8_record_32 ⟨Nat.le_of_ble_eq_true rfl, Nat.le_of_ble_eq_true rfl⟩) hS (fun _ _ h => Or.inl h) (fun _ h => Or.inl h) (fun r u t H locs ht hvm hw hB _ _ hS => ?_)
  rw [hw.1]; have hB : zt_B G u t := hB; rw [hw.2] at hB; have hP := zt_B.P hB ht
  refine W.cs (cells' := 2) (slots' := 12) rfl rfl ?_
  refine vx_ret ?_; refine W.widen (k := 2) (n := 12) (Nat.le_of_ble_eq_true rfl) (Nat.le_of_ble_eq_true rfl) ?_
  exact W.iret hx hb hr (fun t ht hW => ⟨⟨_, _, rfl, (zt_in3 hf), zt_go hE hP hS zt_id2 ht hW⟩, hS.F ht⟩) hS.2.2 dX8_record_35

theorem zh_X8_bringUp : yX8_bringUp.cls = RX8 ∧ yX8_bringUp.cls ≠ "java/lang/invoke/MethodHandle" ∧ yX8_bringUp.cls ≠ "java/lang/invoke/VarHandle" ∧ (parseMethodDescriptor yX8_bringUp.desc).map (fun d => d.parameters.length) = some 1 := by decide +kernel
set_option maxHeartbeats 4000000 in
set_option maxRecDepth 100000 in
theorem m_X8_bringUp (l : Launch) (hl2 : l.stackTraces = false) (G : zt_G) {σ : zt_St} {x1 : Int32} {c9 r : Int32} {σ1 : zt_St} {sz : Nat} (hf : f_X8_bringUp σ x1 = some (c9, r, σ1)) : zt_MXi l G yX8_bringUp wsX8_bringUp 7 103 1 6 [.ref (zt_ad G 0), .int x1] sz σ c9 r σ1 := by
  refine vx_ofW (cc := cX8_bringUp) (maxL := 2) (ret := (some .int)) (by decide) rfl ?_
  intro p e s m args below meth c s₁ B hml hnt hv
  obtain ⟨rfl, rfl, hBB, hX⟩ := hv
  have hE := zt_B.env hBB; have hK := hE.2.1; have hP := hBB.2.1
  have hx := B.exec; have hb := B.bytes; have hr := B.returns; have hts := atoms_spec (ws := wsX8_bringUp) B.pre
  have hown : s.vm.findClass RX8 = some m.cls := findClass_of_methodNamed B.named
  have hlocks := B.notSynchronized
  have hS : va_S (zt_A2 G s.heap.size) s.heap s.heap [] := va_S.rf
  have hl := lv_entry ([.ref (zt_ad G 0), .int x1]) (n := 2) (Nat.le_of_ble_eq_true rfl)
  rw [lg_entry_eq]
  generalize (lg_sl ([.ref (zt_ad G 0), .int x1]) ++ List.replicate (2 - (lg_sl ([.ref (zt_ad G 0), .int x1])).length) Slot.unset).toArray = ls at hl ⊢
  have hl : lv_has ls 2 [(0, .ref (zt_ad G 0)), (1, .int x1)] := hl
  show W p l e (zt_RX 7 103 1 6) s m ([.ref (zt_ad G 0), .int x1] : List Value).toArray below meth c s.heap [] 0 0 (vx_MQ below (zt_Yi G c9 r σ1 s.heap.size) (zt_XC G c9 σ1 s.heap.size) ([.ref (zt_ad G 0), .int x1] : List Value).toArray s 1 6 (zt_A2 G s.heap.size)) (F0 m 0 ls [])
  have fl10 := hts (.fieldLink RX8 10 "ZoneTree" "zones" "LZoneTree$Zones;") (List.mem_cons_of_mem _ (List.mem_append_left _ (List.mem_append_left _ (List.mem_append_left _ (List.mem_append_left _ (List.mem_append_left _ (List.mem_append_left _ (List.mem_of_getElem? (i := 0) rfl))))))))
  have inX8 : ∀ w ∈ wsX80, w ∈ wsX8_bringUp := fun w h => (List.mem_cons_of_mem _ (List.mem_append_left _ (List.mem_append_left _ (List.mem_append_left _ (List.mem_append_left _ (List.mem_append_right _ h))))))
  unfold f_X8_bringUp at hf
  refine lv_aload_n hx hb dX8_bringUp_0 rfl (lv_at hl 0 rfl) ?_
  refine lv_iload_n hx hb dX8_bringUp_1 rfl (lv_at hl 1 rfl) ?_
  obtain ⟨e1, v1, σ2, hvv1, hzv1⟩ := zt_bx_some hf
  refine vx_callv (vx_runV (As := [.int x1]) (rest := []) ⟨hx, hb, hml, hown, hts⟩ (m_X8_checkZone l hl2 G (σ := σ) hvv1) (cwV 1 hts gX8_bringUp_X8_checkZone rfl rfl rfl zh_X8_checkZone ⟨Nat.le_of_ble_eq_true rfl, Nat.le_of_ble_eq_true rfl⟩) ⟨zt_blind2, va_recv hK hP (ci := 7) (q0 := 0) rfl (zt_a7 (rfl : zt_kd 0 = 7)), fun U hU hW => ⟨rfl, zt_go2 hE hX hP hS hU hW⟩⟩ rfl rfl hl.1 rfl (lv_room (Nat.le_of_ble_eq_true rfl)) dX8_bringUp_2 ⟨Nat.le_of_ble_eq_true rfl, Nat.le_of_ble_eq_true rfl⟩) hS (zt_dn hS) (zt_up hS) (zt_dn hS) (fun E ce q9 u t H locs ht hvm hw hB _ _ hS hce hcv hcl => ?_) (fun u t H locs ht hvm hw hB _ _ hS => ?_)
  · rcases hzv1 with ⟨h0, -⟩ | ⟨-, hf⟩
    · exact absurd h0 (zt_exc_ne hB.1)
    · refine vx_out (fun x hxx => (hnt x hxx).elim) hlocks hce hcv hcl (fun t2 ht2 hvm2 => ?_) hS.2.2 (Nat.le_of_ble_eq_true rfl) (Nat.le_of_ble_eq_true rfl)
      have hB2 := hB.2; rw [hw, ht] at hB2; rw [← (zt_in3x hf).1, ← (zt_in3x hf).2]; exact zt_passed hB2 hS ht2 hB.1
  rcases hzv1 with ⟨-, hf⟩ | ⟨h0, -⟩
  rotate_left
  · exact absurd hw.1 h0
  have hB : zt_B G u t := hB; rw [hw.2.2] at hB; have hP := zt_B.P hB ht
  refine W.cs (cells' := 1) (slots' := 6) rfl rfl ?_
  refine lv_aload_n hx hb dX8_bringUp_5 rfl (lv_at hl 0 rfl) ?_
  refine va_get (D := zt_D G) (ci := 7) (v := .ref (zt_ad G 1)) (C := RX8) (T := TX8) (N := 5) hx hb hts inX8 hown hK hP 0 (zt_a7 (rfl : zt_kd 0 = 7)) rfl 0 (by decide) fl10 (fun _ h9 => h9) rfl dX8_bringUp_6 ?_
  refine lv_iload_n hx hb dX8_bringUp_9 rfl (lv_at hl 1 rfl) ?_
  obtain ⟨z5, hvv3, hf⟩ := zt_bd_some hf; obtain ⟨g6, hf⟩ := zt_gd_some hf; have hz5 := of_decide_eq_true g6
  refine va_callr (va_runV (As := [.int x1]) (rest := []) ⟨hx, hb, hml, hown, hts⟩ (m_X7_at l G (σ := σ2) hvv3) (cwV 1 hts gX8_bringUp_X7_at rfl rfl rfl zh_X7_at ⟨Nat.le_of_ble_eq_true rfl, Nat.le_of_ble_eq_true rfl⟩) ⟨zt_blind, va_recv hK hP (ci := 6) (q0 := 1) rfl (zt_a6 (rfl : zt_kd 1 = 6)), fun U hU hW => ⟨rfl, zt_go hE hP hS zt_id2 hU hW⟩⟩ rfl rfl hl.1 rfl (lv_room (Nat.le_of_ble_eq_true rfl)) dX8_bringUp_10 ⟨Nat.le_of_ble_eq_true rfl, Nat.le_of_ble_eq_true rfl⟩) hS (fun _ _ h => Or.inl h) (fun _ h => Or.inl h) (fun u a t H locs ht hvm hw hB _ _ hS => ?_)
  rw [hB.1]; have hB : zt_B G u t := hB.2; rw [hw] at hB; have hP := zt_B.P hB ht
  refine W.cs (cells' := 1) (slots' := 6) rfl rfl ?_
  obtain ⟨⟨v7a, σ8a⟩, hvv7, hf⟩ := zt_bd_some hf
  obtain ⟨v7, hv7, hf⟩ := zt_lt_some hf; obtain ⟨σ8, hσ8, hf⟩ := zt_lt_some hf; rw [show (v7a, σ8a) = (v7, σ8) from by rw [hv7, hσ8]] at hvv7
  refine va_calli (va_runV (As := []) (rest := []) ⟨hx, hb, hml, hown, hts⟩ (m_X6_renewCopy l G hz5 (σ := σ2) hvv7) (cwV 0 hts gX8_bringUp_X6_renewCopy rfl rfl rfl zh_X6_renewCopy ⟨Nat.le_of_ble_eq_true rfl, Nat.le_of_ble_eq_true rfl⟩) ⟨zt_blind, va_recv hK hP (ci := 5) (q0 := z5) rfl (zt_a5 hz5), fun U hU hW => ⟨rfl, zt_go hE hP hS zt_id2 hU hW⟩⟩ rfl rfl hl.1 rfl (lv_room (Nat.le_of_ble_eq_true rfl)) dX8_bringUp_13 ⟨Nat.le_of_ble_eq_true rfl, Nat.le_of_ble_eq_true rfl⟩) hS (fun _ _ h => Or.inl h) (fun _ h => Or.inl h) (fun r u t H locs ht hvm hw hB _ _ hS => ?_)
  rw [hw.1]; have hB : zt_B G u t := hB; rw [hw.2] at hB; have hP := zt_B.P hB ht
  refine W.cs (cells' := 1) (slots' := 6) rfl rfl ?_
  refine vx_ret ?_; refine W.widen (k := 1) (n := 6) (Nat.le_of_ble_eq_true rfl) (Nat.le_of_ble_eq_true rfl) ?_
  exact W.iret hx hb hr (fun t ht hW => ⟨⟨_, _, rfl, (zt_in3 hf), zt_go hE hP hS zt_id2 ht hW⟩, hS.F ht⟩) hS.2.2 dX8_bringUp_16

theorem zh_X8_setDead : yX8_setDead.cls = RX8 ∧ yX8_setDead.cls ≠ "java/lang/invoke/MethodHandle" ∧ yX8_setDead.cls ≠ "java/lang/invoke/VarHandle" ∧ (parseMethodDescriptor yX8_setDead.desc).map (fun d => d.parameters.length) = some 2 := by decide +kernel
set_option maxHeartbeats 4000000 in
set_option maxRecDepth 100000 in
theorem m_X8_setDead (l : Launch) (hl2 : l.stackTraces = false) (G : zt_G) {σ : zt_St} {x1 : Int32} {x2 : Int32} {c9 r : Int32} {σ1 : zt_St} {sz : Nat} (hf : f_X8_setDead σ x1 x2 = some (c9, r, σ1)) : zt_MXv l G yX8_setDead wsX8_setDead 7 103 1 6 [.ref (zt_ad G 0), .int x1, .int x2] sz σ c9 r σ1 := by
  refine vx_ofW (cc := cX8_setDead) (maxL := 3) (ret := none) (by decide) rfl ?_
  intro p e s m args below meth c s₁ B hml hnt hv
  obtain ⟨rfl, rfl, hBB, hX⟩ := hv
  have hE := zt_B.env hBB; have hK := hE.2.1; have hP := hBB.2.1
  have hx := B.exec; have hb := B.bytes; have hr := B.returns; have hts := atoms_spec (ws := wsX8_setDead) B.pre
  have hown : s.vm.findClass RX8 = some m.cls := findClass_of_methodNamed B.named
  have hlocks := B.notSynchronized
  have hS : va_S (zt_A2 G s.heap.size) s.heap s.heap [] := va_S.rf
  have hl := lv_entry ([.ref (zt_ad G 0), .int x1, .int x2]) (n := 3) (Nat.le_of_ble_eq_true rfl)
  rw [lg_entry_eq]
  generalize (lg_sl ([.ref (zt_ad G 0), .int x1, .int x2]) ++ List.replicate (3 - (lg_sl ([.ref (zt_ad G 0), .int x1, .int x2])).length) Slot.unset).toArray = ls at hl ⊢
  have hl : lv_has ls 3 [(0, .ref (zt_ad G 0)), (1, .int x1), (2, .int x2)] := hl
  show W p l e (zt_RX 7 103 1 6) s m ([.ref (zt_ad G 0), .int x1, .int x2] : List Value).toArray below meth c s.heap [] 0 0 (vx_MQ below (zt_Yv G c9 r σ1 s.heap.size) (zt_XC G c9 σ1 s.heap.size) ([.ref (zt_ad G 0), .int x1, .int x2] : List Value).toArray s 1 6 (zt_A2 G s.heap.size)) (F0 m 0 ls [])
  have fl10 := hts (.fieldLink RX8 10 "ZoneTree" "zones" "LZoneTree$Zones;") (List.mem_cons_of_mem _ (List.mem_append_left _ (List.mem_append_left _ (List.mem_append_left _ (List.mem_append_left _ (List.mem_of_getElem? (i := 0) rfl))))))
  have fl127 := zt_Nw.use (args := ([.ref (zt_ad G 0), .int x1, .int x2] : List Value).toArray) hE.2.2.1 (q := ("ZoneTree", 127, "ZoneTree$Zone", "isDead", "Z", "ZoneTree")) (List.mem_of_getElem? (i := 5) rfl)
  have inX6 : ∀ w ∈ wsX60, w ∈ wsX8_setDead := fun w h => (List.mem_cons_of_mem _ (List.mem_append_left _ (List.mem_append_left _ (List.mem_append_right _ h))))
  have inX8 : ∀ w ∈ wsX80, w ∈ wsX8_setDead := fun w h => (List.mem_cons_of_mem _ (List.mem_append_left _ (List.mem_append_left _ (List.mem_append_left _ (List.mem_append_right _ h)))))
  unfold f_X8_setDead at hf
  refine lv_aload_n hx hb dX8_setDead_0 rfl (lv_at hl 0 rfl) ?_
  refine lv_iload_n hx hb dX8_setDead_1 rfl (lv_at hl 1 rfl) ?_
  obtain ⟨e1, v1, σ2, hvv1, hzv1⟩ := zt_bx_some hf
  refine vx_callv (vx_runV (As := [.int x1]) (rest := []) ⟨hx, hb, hml, hown, hts⟩ (m_X8_checkZone l hl2 G (σ := σ) hvv1) (cwV 1 hts gX8_setDead_X8_checkZone rfl rfl rfl zh_X8_checkZone ⟨Nat.le_of_ble_eq_true rfl, Nat.le_of_ble_eq_true rfl⟩) ⟨zt_blind2, va_recv hK hP (ci := 7) (q0 := 0) rfl (zt_a7 (rfl : zt_kd 0 = 7)), fun U hU hW => ⟨rfl, zt_go2 hE hX hP hS hU hW⟩⟩ rfl rfl hl.1 rfl (lv_room (Nat.le_of_ble_eq_true rfl)) dX8_setDead_2 ⟨Nat.le_of_ble_eq_true rfl, Nat.le_of_ble_eq_true rfl⟩) hS (zt_dn hS) (zt_up hS) (zt_dn hS) (fun E ce q9 u t H locs ht hvm hw hB _ _ hS hce hcv hcl => ?_) (fun u t H locs ht hvm hw hB _ _ hS => ?_)
  · rcases hzv1 with ⟨h0, -⟩ | ⟨-, hf⟩
    · exact absurd h0 (zt_exc_ne hB.1)
    · refine vx_out (fun x hxx => (hnt x hxx).elim) hlocks hce hcv hcl (fun t2 ht2 hvm2 => ?_) hS.2.2 (Nat.le_of_ble_eq_true rfl) (Nat.le_of_ble_eq_true rfl)
      have hB2 := hB.2; rw [hw, ht] at hB2; rw [← (zt_in3x hf).1, ← (zt_in3x hf).2]; exact zt_passed hB2 hS ht2 hB.1
  rcases hzv1 with ⟨-, hf⟩ | ⟨h0, -⟩
  rotate_left
  · exact absurd hw.1 h0
  have hB : zt_B G u t := hB; rw [hw.2.2] at hB; have hP := zt_B.P hB ht
  refine W.cs (cells' := 1) (slots' := 6) rfl rfl ?_
  refine lv_aload_n hx hb dX8_setDead_5 rfl (lv_at hl 0 rfl) ?_
  refine va_get (D := zt_D G) (ci := 7) (v := .ref (zt_ad G 1)) (C := RX8) (T := TX8) (N := 5) hx hb hts inX8 hown hK hP 0 (zt_a7 (rfl : zt_kd 0 = 7)) rfl 0 (by decide) fl10 (fun _ h9 => h9) rfl dX8_setDead_6 ?_
  refine lv_iload_n hx hb dX8_setDead_9 rfl (lv_at hl 1 rfl) ?_
  obtain ⟨z5, hvv3, hf⟩ := zt_bd_some hf; obtain ⟨g6, hf⟩ := zt_gd_some hf; have hz5 := of_decide_eq_true g6
  refine va_callr (va_runV (As := [.int x1]) (rest := []) ⟨hx, hb, hml, hown, hts⟩ (m_X7_at l G (σ := σ2) hvv3) (cwV 1 hts gX8_setDead_X7_at rfl rfl rfl zh_X7_at ⟨Nat.le_of_ble_eq_true rfl, Nat.le_of_ble_eq_true rfl⟩) ⟨zt_blind, va_recv hK hP (ci := 6) (q0 := 1) rfl (zt_a6 (rfl : zt_kd 1 = 6)), fun U hU hW => ⟨rfl, zt_go hE hP hS zt_id2 hU hW⟩⟩ rfl rfl hl.1 rfl (lv_room (Nat.le_of_ble_eq_true rfl)) dX8_setDead_10 ⟨Nat.le_of_ble_eq_true rfl, Nat.le_of_ble_eq_true rfl⟩) hS (fun _ _ h => Or.inl h) (fun _ h => Or.inl h) (fun u a t H locs ht hvm hw hB _ _ hS => ?_)
  rw [hB.1]; have hB : zt_B G u t := hB.2; rw [hw] at hB; have hP := zt_B.P hB ht
  refine W.cs (cells' := 1) (slots' := 6) rfl rfl ?_
  refine lv_iload_n hx hb dX8_setDead_13 rfl (lv_at hl 2 rfl) ?_
  obtain ⟨g7, hf⟩ := zt_gd_some hf
  obtain ⟨σ8, hσ8, hf⟩ := zt_lt_some hf
  refine va_putN (D := zt_D G) (ci := 5) (v := .int x2) (ty := .boolean) (C := RX6) (T := TX6) (N := 11) hx hb hts inX6 tyX6 tyX6_ok nmX6 hown hK hP (zt_apart2 hE.1) hS z5 (zt_a5 hz5) rfl 4 (by decide) fl127 (fun _ h9 => h9) rfl (tyX6_ok 4 (by decide)) (zt_bn g7).1 (zt_bn g7).2 (Nat.le_of_ble_eq_true rfl) dX8_setDead_14 (fun H locs hP _ hS => ?_)
  rw [zt_p5_4 hz5, ← hσ8] at hP
  refine vx_ret ?_; refine W.widen (k := 1) (n := 6) (Nat.le_of_ble_eq_true rfl) (Nat.le_of_ble_eq_true rfl) ?_
  exact W.vret hx hb hr (fun t ht hW => ⟨⟨_, rfl, zt_in3 hf, zt_go hE hP hS zt_id2 ht hW⟩, hS.F ht⟩) hS.2.2 dX8_setDead_17

theorem zh_X8_checkNameAndSort : yX8_checkNameAndSort.cls ≠ "java/lang/invoke/MethodHandle" ∧ yX8_checkNameAndSort.cls ≠ "java/lang/invoke/VarHandle" ∧ (parseMethodDescriptor yX8_checkNameAndSort.desc).map (fun d => d.parameters.length) = some 2 := by decide +kernel
set_option maxHeartbeats 4000000 in
set_option maxRecDepth 100000 in
theorem m_X8_checkNameAndSort (l : Launch) (hl2 : l.stackTraces = false) (G : zt_G) {σ : zt_St} {x0 : Int32} {x1 : Int32} {c9 r : Int32} {σ1 : zt_St} {sz : Nat} (hf : f_X8_checkNameAndSort σ x0 x1 = some (c9, r, σ1)) : zt_MXv l G yX8_checkNameAndSort wsX8_checkNameAndSort 6 82 1 6 [.int x0, .int x1] sz σ c9 r σ1 := by
  refine vx_ofW (cc := cX8_checkNameAndSort) (maxL := 2) (ret := none) (by decide) rfl ?_
  intro p e s m args below meth c s₁ B hml hnt hv
  obtain ⟨rfl, rfl, hBB, hX⟩ := hv
  have hE := zt_B.env hBB; have hK := hE.2.1; have hP := hBB.2.1
  have hx := B.exec; have hb := B.bytes; have hr := B.returns; have hts := atoms_spec (ws := wsX8_checkNameAndSort) B.pre
  have hown : s.vm.findClass RX8 = some m.cls := findClass_of_methodNamed B.named
  have hlocks := B.notSynchronized
  have hS : va_S (zt_A2 G s.heap.size) s.heap s.heap [] := va_S.rf
  have hl := lv_entry ([.int x0, .int x1]) (n := 2) (Nat.le_of_ble_eq_true rfl)
  rw [lg_entry_eq]
  generalize (lg_sl ([.int x0, .int x1]) ++ List.replicate (2 - (lg_sl ([.int x0, .int x1])).length) Slot.unset).toArray = ls at hl ⊢
  have hl : lv_has ls 2 [(0, .int x0), (1, .int x1)] := hl
  show W p l e (zt_RX 6 82 1 6) s m ([.int x0, .int x1] : List Value).toArray below meth c s.heap [] 0 0 (vx_MQ below (zt_Yv G c9 r σ1 s.heap.size) (zt_XC G c9 σ1 s.heap.size) ([.int x0, .int x1] : List Value).toArray s 1 6 (zt_A2 G s.heap.size)) (F0 m 0 ls [])
  have B14 : ∀ (σ : zt_St) (H : Heap) (locs : List Loc) (ls : Array Slot), f_X8_checkNameAndSort_14 σ = some (c9, r, σ1) → va_P (zt_D G) vwCl (zt_ww G σ) H → va_S (zt_A2 G s.heap.size) s.heap H locs → lv_has ls 2 [] → W p l e (zt_RX 6 82 1 6) s m ([.int x0, .int x1] : List Value).toArray below meth c H locs 0 0 (vx_MQ below (zt_Yv G c9 r σ1 s.heap.size) (zt_XC G c9 σ1 s.heap.size) ([.int x0, .int x1] : List Value).toArray s 1 6 (zt_A2 G s.heap.size)) (F0 m 14 ls []) := by
    intro σ H locs ls hf hP hS hl
    unfold f_X8_checkNameAndSort_14 at hf
    obtain ⟨sa, hsa⟩ := hX.2.2.1 _ (List.mem_of_getElem? (l := zt_xs) (i := 13) rfl)
    exact vx_throwS (cls := "java/lang/IllegalArgumentException") (text := "the name or the sort is out of range") (names := ["java/lang/RuntimeException", "java/lang/Exception"]) (sa := sa) (A := zt_A2 G s.heap.size) hx hb hl2 hown (by decide +kernel) (by decide +kernel) (hts (.classLink RX8 51 "java/lang/IllegalArgumentException") (List.mem_cons_of_mem _ (List.mem_append_left _ (List.mem_of_getElem? (i := 0) rfl)))) (hts (.initialized "java/lang/IllegalArgumentException") (List.mem_cons_of_mem _ (List.mem_append_left _ (List.mem_of_getElem? (i := 1) rfl)))) hsa (zt_at1 hX (fun w h => hts w (List.mem_cons_of_mem _ (List.mem_append_right _ h)))) zt_gd1 (zt_Zqw hX.1 zt_A2n) (zt_Zqw hX.2.1 zt_A2n) hS (hl.1.trans hml.symm) dX8_checkNameAndSort_14 dX8_checkNameAndSort_17 dX8_checkNameAndSort_18 dX8_checkNameAndSort_20 dX8_checkNameAndSort_23 (fun x hxx => (hnt x hxx).elim) (Nat.le_of_ble_eq_true rfl) (Nat.le_of_ble_eq_true rfl) (Nat.le_of_ble_eq_true rfl) (Nat.le_of_ble_eq_true rfl) hlocks (fun t hvm9 h1 h2 => by rw [← (zt_in3x hf).1, ← (zt_in3x hf).2]; exact zt_thrown hP hS h1 h2 (by exact Or.inl ⟨rfl, rfl⟩)) hS.2.2 (Nat.le_of_ble_eq_true rfl) (Nat.le_of_ble_eq_true rfl)
  unfold f_X8_checkNameAndSort at hf
  refine lv_iload_n hx hb dX8_checkNameAndSort_0 rfl (lv_at hl 0 rfl) ?_
  obtain ⟨v1, hvv1, hf⟩ := zt_bd_some hf
  refine va_calli (va_runS (As := [.int x0]) (rest := []) ⟨hx, hb, hml, hown, hts⟩ (m_X3_isName l G (σ := σ) hvv1) (va_cwS 1 hts gX8_checkNameAndSort_X3_isName rfl rfl rfl zh_X3_isName ⟨Nat.le_of_ble_eq_true rfl, Nat.le_of_ble_eq_true rfl⟩) ⟨zt_blind, fun U hU hW => ⟨rfl, zt_go hE hP hS zt_id2 hU hW⟩⟩ rfl rfl hl.1 rfl (lv_room (Nat.le_of_ble_eq_true rfl)) dX8_checkNameAndSort_1 ⟨Nat.le_of_ble_eq_true rfl, Nat.le_of_ble_eq_true rfl⟩) hS (fun _ _ h => Or.inl h) (fun _ h => Or.inl h) (fun r u t H locs ht hvm hw hB _ _ hS => ?_)
  rw [hw.1]; have hB : zt_B G u t := hB; rw [hw.2] at hB; have hP := zt_B.P hB ht
  refine W.cs (cells' := 0) (slots' := 0) rfl rfl ?_
  refine lv_if_eq (tgt := 14) hx hb dX8_checkNameAndSort_4 (by decide) (fun c3 => ?_) (fun c3 => ?_)
  · have hf := (if_pos c3).symm.trans hf
    exact B14 σ _ _ _ hf hP hS (lv_sub hl [] rfl)
  · have hf := (if_neg c3).symm.trans hf
    refine lv_iload_n hx hb dX8_checkNameAndSort_7 rfl (lv_at hl 1 rfl) ?_
    obtain ⟨v4, hvv4, hf⟩ := zt_bd_some hf
    refine va_calli (va_runS (As := [.int x1]) (rest := []) ⟨hx, hb, hml, hown, hts⟩ (m_X8_isSort l G (σ := σ) hvv4) (va_cwS 1 hts gX8_checkNameAndSort_X8_isSort rfl rfl rfl zh_X8_isSort ⟨Nat.le_of_ble_eq_true rfl, Nat.le_of_ble_eq_true rfl⟩) ⟨zt_blind, fun U hU hW => ⟨rfl, zt_go hE hP hS zt_id2 hU hW⟩⟩ rfl rfl hl.1 rfl (lv_room (Nat.le_of_ble_eq_true rfl)) dX8_checkNameAndSort_8 ⟨Nat.le_of_ble_eq_true rfl, Nat.le_of_ble_eq_true rfl⟩) hS (fun _ _ h => Or.inl h) (fun _ h => Or.inl h) (fun r u t H locs ht hvm hw hB _ _ hS => ?_)
    rw [hw.1]; have hB : zt_B G u t := hB; rw [hw.2] at hB; have hP := zt_B.P hB ht
    refine W.cs (cells' := 0) (slots' := 0) rfl rfl ?_
    refine lv_if_ne (tgt := 24) hx hb dX8_checkNameAndSort_11 (by decide) (fun c6 => ?_) (fun c6 => ?_)
    · have hf := (if_neg c6).symm.trans hf
      refine vx_ret ?_; refine W.widen (k := 1) (n := 6) (Nat.le_of_ble_eq_true rfl) (Nat.le_of_ble_eq_true rfl) ?_
      exact W.vret hx hb hr (fun t ht hW => ⟨⟨_, rfl, zt_in3 hf, zt_go hE hP hS zt_id2 ht hW⟩, hS.F ht⟩) hS.2.2 dX8_checkNameAndSort_24
    · have hf := (if_pos c6).symm.trans hf
      exact B14 σ _ _ _ hf hP hS (lv_sub hl [] rfl)

theorem zh_X8_ask : yX8_ask.cls = RX8 ∧ yX8_ask.cls ≠ "java/lang/invoke/MethodHandle" ∧ yX8_ask.cls ≠ "java/lang/invoke/VarHandle" ∧ (parseMethodDescriptor yX8_ask.desc).map (fun d => d.parameters.length) = some 3 := by decide +kernel
set_option maxHeartbeats 4000000 in
set_option maxRecDepth 100000 in
theorem m_X8_ask (l : Launch) (hl2 : l.stackTraces = false) (G : zt_G) {σ : zt_St} {x1 : Int32} {x2 : Int32} {x3 : Int32} {c9 r : Int32} {σ1 : zt_St} {sz : Nat} (hf : f_X8_ask σ x1 x2 x3 = some (c9, r, σ1)) : zt_MXi l G yX8_ask wsX8_ask 7 104 3 18 [.ref (zt_ad G 0), .int x1, .int x2, .int x3] sz σ c9 r σ1 := by
  refine vx_ofW (cc := cX8_ask) (maxL := 5) (ret := (some .int)) (by decide) rfl ?_
  intro p e s m args below meth c s₁ B hml hnt hv
  obtain ⟨rfl, rfl, hBB, hX⟩ := hv
  have hE := zt_B.env hBB; have hK := hE.2.1; have hP := hBB.2.1
  have hx := B.exec; have hb := B.bytes; have hr := B.returns; have hts := atoms_spec (ws := wsX8_ask) B.pre
  have hown : s.vm.findClass RX8 = some m.cls := findClass_of_methodNamed B.named
  have hlocks := B.notSynchronized
  have hS : va_S (zt_A2 G s.heap.size) s.heap s.heap [] := va_S.rf
  have hl := lv_entry ([.ref (zt_ad G 0), .int x1, .int x2, .int x3]) (n := 5) (Nat.le_of_ble_eq_true rfl)
  rw [lg_entry_eq]
  generalize (lg_sl ([.ref (zt_ad G 0), .int x1, .int x2, .int x3]) ++ List.replicate (5 - (lg_sl ([.ref (zt_ad G 0), .int x1, .int x2, .int x3])).length) Slot.unset).toArray = ls at hl ⊢
  have hl : lv_has ls 5 [(0, .ref (zt_ad G 0)), (1, .int x1), (2, .int x2), (3, .int x3)] := hl
  show W p l e (zt_RX 7 104 3 18) s m ([.ref (zt_ad G 0), .int x1, .int x2, .int x3] : List Value).toArray below meth c s.heap [] 0 0 (vx_MQ below (zt_Yi G c9 r σ1 s.heap.size) (zt_XC G c9 σ1 s.heap.size) ([.ref (zt_ad G 0), .int x1, .int x2, .int x3] : List Value).toArray s 3 18 (zt_A2 G s.heap.size)) (F0 m 0 ls [])
  have fl10 := hts (.fieldLink RX8 10 "ZoneTree" "zones" "LZoneTree$Zones;") (List.mem_cons_of_mem _ (List.mem_append_left _ (List.mem_append_left _ (List.mem_append_left _ (List.mem_append_left _ (List.mem_append_left _ (List.mem_append_left _ (List.mem_append_left _ (List.mem_append_left _ (List.mem_append_left _ (List.mem_of_getElem? (i := 2) rfl)))))))))))
  have fl35 := hts (.fieldLink RX8 35 "ZoneTree" "latest" "LZoneTree$Answer;") (List.mem_cons_of_mem _ (List.mem_append_left _ (List.mem_append_left _ (List.mem_append_left _ (List.mem_append_left _ (List.mem_append_left _ (List.mem_append_left _ (List.mem_append_left _ (List.mem_append_left _ (List.mem_append_left _ (List.mem_of_getElem? (i := 3) rfl)))))))))))
  have fl111 := zt_Nw.use (args := ([.ref (zt_ad G 0), .int x1, .int x2, .int x3] : List Value).toArray) hE.2.2.1 (q := ("ZoneTree", 111, "ZoneTree$Zone", "records", "LZoneTree$Records;", "ZoneTree")) (List.mem_of_getElem? (i := 9) rfl)
  have fl134 := zt_Nw.use (args := ([.ref (zt_ad G 0), .int x1, .int x2, .int x3] : List Value).toArray) hE.2.2.1 (q := ("ZoneTree", 134, "ZoneTree$Zone", "apex", "I", "ZoneTree")) (List.mem_of_getElem? (i := 3) rfl)
  have fl146 := zt_Nw.use (args := ([.ref (zt_ad G 0), .int x1, .int x2, .int x3] : List Value).toArray) hE.2.2.1 (q := ("ZoneTree", 146, "ZoneTree$Answer", "questions", "I", "ZoneTree")) (List.mem_of_getElem? (i := 23) rfl)
  have fl149 := zt_Nw.use (args := ([.ref (zt_ad G 0), .int x1, .int x2, .int x3] : List Value).toArray) hE.2.2.1 (q := ("ZoneTree", 149, "ZoneTree$Answer", "isOld", "Z", "ZoneTree")) (List.mem_of_getElem? (i := 25) rfl)
  have fl152 := zt_Nw.use (args := ([.ref (zt_ad G 0), .int x1, .int x2, .int x3] : List Value).toArray) hE.2.2.1 (q := ("ZoneTree", 152, "ZoneTree$Answer", "kind", "I", "ZoneTree")) (List.mem_of_getElem? (i := 15) rfl)
  have inX0 : ∀ w ∈ wsX00, w ∈ wsX8_ask := fun w h => (List.mem_cons_of_mem _ (List.mem_append_left _ (List.mem_append_left _ (List.mem_append_left _ (List.mem_append_left _ (List.mem_append_left _ (List.mem_append_right _ h)))))))
  have inX6 : ∀ w ∈ wsX60, w ∈ wsX8_ask := fun w h => (List.mem_cons_of_mem _ (List.mem_append_left _ (List.mem_append_left _ (List.mem_append_left _ (List.mem_append_left _ (List.mem_append_left _ (List.mem_append_left _ (List.mem_append_right _ h))))))))
  have inX8 : ∀ w ∈ wsX80, w ∈ wsX8_ask := fun w h => (List.mem_cons_of_mem _ (List.mem_append_left _ (List.mem_append_left _ (List.mem_append_left _ (List.mem_append_left _ (List.mem_append_left _ (List.mem_append_left _ (List.mem_append_left _ (List.mem_append_right _ h)))))))))
  unfold f_X8_ask at hf
  refine lv_aload_n hx hb dX8_ask_0 rfl (lv_at hl 0 rfl) ?_
  refine lv_iload_n hx hb dX8_ask_1 rfl (lv_at hl 1 rfl) ?_
  obtain ⟨e1, v1, σ2, hvv1, hzv1⟩ := zt_bx_some hf
  refine vx_callv (vx_runV (As := [.int x1]) (rest := []) ⟨hx, hb, hml, hown, hts⟩ (m_X8_checkZone l hl2 G (σ := σ) hvv1) (cwV 1 hts gX8_ask_X8_checkZone rfl rfl rfl zh_X8_checkZone ⟨Nat.le_of_ble_eq_true rfl, Nat.le_of_ble_eq_true rfl⟩) ⟨zt_blind2, va_recv hK hP (ci := 7) (q0 := 0) rfl (zt_a7 (rfl : zt_kd 0 = 7)), fun U hU hW => ⟨rfl, zt_go2 hE hX hP hS hU hW⟩⟩ rfl rfl hl.1 rfl (lv_room (Nat.le_of_ble_eq_true rfl)) dX8_ask_2 ⟨Nat.le_of_ble_eq_true rfl, Nat.le_of_ble_eq_true rfl⟩) hS (zt_dn hS) (zt_up hS) (zt_dn hS) (fun E ce q9 u t H locs ht hvm hw hB _ _ hS hce hcv hcl => ?_) (fun u t H locs ht hvm hw hB _ _ hS => ?_)
  · rcases hzv1 with ⟨h0, -⟩ | ⟨-, hf⟩
    · exact absurd h0 (zt_exc_ne hB.1)
    · refine vx_out (fun x hxx => (hnt x hxx).elim) hlocks hce hcv hcl (fun t2 ht2 hvm2 => ?_) hS.2.2 (Nat.le_of_ble_eq_true rfl) (Nat.le_of_ble_eq_true rfl)
      have hB2 := hB.2; rw [hw, ht] at hB2; rw [← (zt_in3x hf).1, ← (zt_in3x hf).2]; exact zt_passed hB2 hS ht2 hB.1
  rcases hzv1 with ⟨-, hf⟩ | ⟨h0, -⟩
  rotate_left
  · exact absurd hw.1 h0
  have hB : zt_B G u t := hB; rw [hw.2.2] at hB; have hP := zt_B.P hB ht
  refine W.cs (cells' := 1) (slots' := 6) rfl rfl ?_
  refine lv_iload_n hx hb dX8_ask_5 rfl (lv_at hl 2 rfl) ?_
  refine lv_iload_n hx hb dX8_ask_6 rfl (lv_at hl 3 rfl) ?_
  obtain ⟨e3, v3, σ4, hvv3, hzv3⟩ := zt_bx_some hf
  refine vx_callv (vx_runS (As := [.int x2, .int x3]) (rest := []) ⟨hx, hb, hml, hown, hts⟩ (m_X8_checkNameAndSort l hl2 G (σ := σ2) hvv3) (va_cwS 2 hts gX8_ask_X8_checkNameAndSort rfl rfl rfl zh_X8_checkNameAndSort ⟨Nat.le_of_ble_eq_true rfl, Nat.le_of_ble_eq_true rfl⟩) ⟨zt_blind2, fun U hU hW => ⟨rfl, zt_go2 hE hX hP hS hU hW⟩⟩ rfl rfl hl.1 rfl (lv_room (Nat.le_of_ble_eq_true rfl)) dX8_ask_7 ⟨Nat.le_of_ble_eq_true rfl, Nat.le_of_ble_eq_true rfl⟩) hS (zt_dn hS) (zt_up hS) (zt_dn hS) (fun E ce q9 u t H locs ht hvm hw hB _ _ hS hce hcv hcl => ?_) (fun u t H locs ht hvm hw hB _ _ hS => ?_)
  · rcases hzv3 with ⟨h0, -⟩ | ⟨-, hf⟩
    · exact absurd h0 (zt_exc_ne hB.1)
    · refine vx_out (fun x hxx => (hnt x hxx).elim) hlocks hce hcv hcl (fun t2 ht2 hvm2 => ?_) hS.2.2 (Nat.le_of_ble_eq_true rfl) (Nat.le_of_ble_eq_true rfl)
      have hB2 := hB.2; rw [hw, ht] at hB2; rw [← (zt_in3x hf).1, ← (zt_in3x hf).2]; exact zt_passed hB2 hS ht2 hB.1
  rcases hzv3 with ⟨-, hf⟩ | ⟨h0, -⟩
  rotate_left
  · exact absurd hw.1 h0
  have hB : zt_B G u t := hB; rw [hw.2.2] at hB; have hP := zt_B.P hB ht
  refine W.cs (cells' := 2) (slots' := 12) rfl rfl ?_
  refine lv_aload_n hx hb dX8_ask_10 rfl (lv_at hl 0 rfl) ?_
  refine va_get (D := zt_D G) (ci := 7) (v := .ref (zt_ad G 1)) (C := RX8) (T := TX8) (N := 5) hx hb hts inX8 hown hK hP 0 (zt_a7 (rfl : zt_kd 0 = 7)) rfl 0 (by decide) fl10 (fun _ h9 => h9) rfl dX8_ask_11 ?_
  refine lv_iload_n hx hb dX8_ask_14 rfl (lv_at hl 1 rfl) ?_
  obtain ⟨z7, hvv5, hf⟩ := zt_bd_some hf; obtain ⟨g8, hf⟩ := zt_gd_some hf; have hz7 := of_decide_eq_true g8
  refine va_callr (va_runV (As := [.int x1]) (rest := []) ⟨hx, hb, hml, hown, hts⟩ (m_X7_at l G (σ := σ4) hvv5) (cwV 1 hts gX8_ask_X7_at rfl rfl rfl zh_X7_at ⟨Nat.le_of_ble_eq_true rfl, Nat.le_of_ble_eq_true rfl⟩) ⟨zt_blind, va_recv hK hP (ci := 6) (q0 := 1) rfl (zt_a6 (rfl : zt_kd 1 = 6)), fun U hU hW => ⟨rfl, zt_go hE hP hS zt_id2 hU hW⟩⟩ rfl rfl hl.1 rfl (lv_room (Nat.le_of_ble_eq_true rfl)) dX8_ask_15 ⟨Nat.le_of_ble_eq_true rfl, Nat.le_of_ble_eq_true rfl⟩) hS (fun _ _ h => Or.inl h) (fun _ h => Or.inl h) (fun u a t H locs ht hvm hw hB _ _ hS => ?_)
  rw [hB.1]; have hB : zt_B G u t := hB.2; rw [hw] at hB; have hP := zt_B.P hB ht
  refine W.cs (cells' := 2) (slots' := 12) rfl rfl ?_
  refine lv_astore (lv' := [(4, .ref (zt_ad G z7)), (0, .ref (zt_ad G 0)), (1, .int x1), (2, .int x2), (3, .int x3)]) hx hb dX8_ask_18 hl (by decide) rfl (fun ls hl => ?_)
  refine lv_iload_n hx hb dX8_ask_20 rfl (lv_at hl 3 rfl) ?_
  refine lv_aload hx hb dX8_ask_21 (lv_at hl 0 rfl) ?_
  refine va_getN (D := zt_D G) (ci := 5) (v := .int (σ4 z7 0)) (C := RX6) (T := TX6) (N := 11) hx hb hts inX6 hown hK hP z7 (zt_a5 hz7) rfl 0 (by decide) fl134 (fun _ h9 => h9) rfl dX8_ask_23 ?_
  obtain ⟨v9, hvv9, hf⟩ := zt_bd_some hf
  refine va_calli (va_runS (As := [.int x2, .int (σ4 z7 0)]) (rest := []) ⟨hx, hb, hml, hown, hts⟩ (m_X3_isUnder l G (σ := σ4) hvv9) (va_cwS 2 hts gX8_ask_X3_isUnder rfl rfl rfl zh_X3_isUnder ⟨Nat.le_of_ble_eq_true rfl, Nat.le_of_ble_eq_true rfl⟩) ⟨zt_blind, fun U hU hW => ⟨rfl, zt_go hE hP hS zt_id2 hU hW⟩⟩ rfl rfl hl.1 rfl (lv_room (Nat.le_of_ble_eq_true rfl)) dX8_ask_26 ⟨Nat.le_of_ble_eq_true rfl, Nat.le_of_ble_eq_true rfl⟩) hS (fun _ _ h => Or.inl h) (fun _ h => Or.inl h) (fun r u t H locs ht hvm hw hB _ _ hS => ?_)
  rw [hw.1]; have hB : zt_B G u t := hB; rw [hw.2] at hB; have hP := zt_B.P hB ht
  refine W.cs (cells' := 2) (slots' := 12) rfl rfl ?_
  refine lv_if_ne (tgt := 42) hx hb dX8_ask_29 (by decide) (fun c11 => ?_) (fun c11 => ?_)
  · have hf := (if_neg c11).symm.trans hf
    refine lv_aload hx hb dX8_ask_42 (lv_at hl 0 rfl) ?_
    refine lv_aload hx hb dX8_ask_44 (lv_at hl 0 rfl) ?_
    refine va_getN (D := zt_D G) (ci := 5) (v := .ref (zt_ad G (z7 + 1))) (C := RX6) (T := TX6) (N := 11) hx hb hts inX6 hown hK hP z7 (zt_a5 hz7) rfl 9 (by decide) fl111 (fun _ h9 => h9) rfl dX8_ask_46 ?_
    refine lv_iload_n hx hb dX8_ask_49 rfl (lv_at hl 3 rfl) ?_
    refine lv_iload_n hx hb dX8_ask_50 rfl (lv_at hl 4 rfl) ?_
    refine lv_aload_n hx hb dX8_ask_51 rfl (lv_at hl 1 rfl) ?_
    refine va_get (D := zt_D G) (ci := 7) (v := .ref (zt_ad G 92)) (C := RX8) (T := TX8) (N := 5) hx hb hts inX8 hown hK hP 0 (zt_a7 (rfl : zt_kd 0 = 7)) rfl 3 (by decide) fl35 (fun _ h9 => h9) rfl dX8_ask_52 ?_
    obtain ⟨σ13, hvv12, hf⟩ := zt_bd_some hf
    refine va_callv (va_runV (As := [.ref (zt_ad G (z7 + 1)), .int x2, .int x3, .ref (zt_ad G 92)]) (rest := []) ⟨hx, hb, hml, hown, hts⟩ (m_X6_answer l G hz7 (zt_k5_9 hz7) (rfl : zt_kd 92 = 0) (σ := σ4) hvv12) (cwV 4 hts gX8_ask_X6_answer rfl rfl rfl zh_X6_answer ⟨Nat.le_of_ble_eq_true rfl, Nat.le_of_ble_eq_true rfl⟩) ⟨zt_blind, va_recv hK hP (ci := 5) (q0 := z7) rfl (zt_a5 hz7), fun U hU hW => ⟨rfl, zt_go hE hP hS zt_id2 hU hW⟩⟩ rfl rfl hl.1 rfl (lv_room (Nat.le_of_ble_eq_true rfl)) dX8_ask_55 ⟨Nat.le_of_ble_eq_true rfl, Nat.le_of_ble_eq_true rfl⟩) hS (fun _ _ h => Or.inl h) (fun _ h => Or.inl h) (fun u t H locs ht hvm hw hB _ _ hS => ?_)
    have hB : zt_B G u t := hB; rw [hw] at hB; have hP := zt_B.P hB ht
    refine W.cs (cells' := 2) (slots' := 12) rfl rfl ?_
    refine lv_aload_n hx hb dX8_ask_58 rfl (lv_at hl 1 rfl) ?_
    refine va_get (D := zt_D G) (ci := 7) (v := .ref (zt_ad G 92)) (C := RX8) (T := TX8) (N := 5) hx hb hts inX8 hown hK hP 0 (zt_a7 (rfl : zt_kd 0 = 7)) rfl 3 (by decide) fl35 (fun _ h9 => h9) rfl dX8_ask_59 ?_
    refine lv_iconst (v := 1) hx hb dX8_ask_62 (by decide) ?_
    obtain ⟨σ14, hσ14, hf⟩ := zt_lt_some hf
    refine va_putN (D := zt_D G) (ci := 0) (v := .int 1) (ty := .int) (C := RX0) (T := TX0) (N := 8) hx hb hts inX0 tyX0 tyX0_ok nmX0 hown hK hP (zt_apart2 hE.1) hS 92 (zt_a0 (rfl : zt_kd 92 = 0)) rfl 4 (by decide) fl146 (fun _ h9 => h9) rfl (tyX0_ok 4 (by decide)) rfl rfl (Nat.le_of_ble_eq_true rfl) dX8_ask_63 (fun H locs hP _ hS => ?_)
    rw [zt_p0_4 (rfl : zt_kd 92 = 0), ← hσ14] at hP
    refine lv_aload_n hx hb dX8_ask_66 rfl (lv_at hl 1 rfl) ?_
    refine va_get (D := zt_D G) (ci := 7) (v := .ref (zt_ad G 92)) (C := RX8) (T := TX8) (N := 5) hx hb hts inX8 hown hK hP 0 (zt_a7 (rfl : zt_kd 0 = 7)) rfl 3 (by decide) fl35 (fun _ h9 => h9) rfl dX8_ask_67 ?_
    refine lv_iconst (v := 0) hx hb dX8_ask_70 (by decide) ?_
    obtain ⟨σ15, hσ15, hf⟩ := zt_lt_some hf
    refine va_putN (D := zt_D G) (ci := 0) (v := .int 0) (ty := .boolean) (C := RX0) (T := TX0) (N := 8) hx hb hts inX0 tyX0 tyX0_ok nmX0 hown hK hP (zt_apart2 hE.1) hS 92 (zt_a0 (rfl : zt_kd 92 = 0)) rfl 5 (by decide) fl149 (fun _ h9 => h9) rfl (tyX0_ok 5 (by decide)) (zt_bn (by decide)).1 (zt_bn (by decide)).2 (Nat.le_of_ble_eq_true rfl) dX8_ask_71 (fun H locs hP _ hS => ?_)
    rw [zt_p0_5 (rfl : zt_kd 92 = 0), ← hσ15] at hP
    refine lv_aload_n hx hb dX8_ask_74 rfl (lv_at hl 1 rfl) ?_
    refine va_get (D := zt_D G) (ci := 7) (v := .ref (zt_ad G 92)) (C := RX8) (T := TX8) (N := 5) hx hb hts inX8 hown hK hP 0 (zt_a7 (rfl : zt_kd 0 = 7)) rfl 3 (by decide) fl35 (fun _ h9 => h9) rfl dX8_ask_75 ?_
    refine va_getN (D := zt_D G) (ci := 0) (v := .int (σ15 92 0)) (C := RX0) (T := TX0) (N := 8) hx hb hts inX0 hown hK hP 92 (zt_a0 (rfl : zt_kd 92 = 0)) rfl 0 (by decide) fl152 (fun _ h9 => h9) rfl dX8_ask_78 ?_
    refine vx_ret ?_; refine W.widen (k := 3) (n := 18) (Nat.le_of_ble_eq_true rfl) (Nat.le_of_ble_eq_true rfl) ?_
    exact W.iret hx hb hr (fun t ht hW => ⟨⟨_, _, rfl, (zt_in3 hf), zt_go hE hP hS zt_id2 ht hW⟩, hS.F ht⟩) hS.2.2 dX8_ask_81
  · have hf := (if_pos c11).symm.trans hf
    obtain ⟨sa, hsa⟩ := hX.2.2.1 _ (List.mem_of_getElem? (l := zt_xs) (i := 4) rfl)
    exact vx_throwS (cls := "java/lang/IllegalStateException") (text := "the name is not under the apex of the zone") (names := ["java/lang/RuntimeException", "java/lang/Exception"]) (sa := sa) (A := zt_A2 G s.heap.size) hx hb hl2 hown (by decide +kernel) (by decide +kernel) (hts (.classLink RX8 65 "java/lang/IllegalStateException") (List.mem_cons_of_mem _ (List.mem_append_left _ (List.mem_append_left _ (List.mem_append_left _ (List.mem_append_left _ (List.mem_append_left _ (List.mem_append_left _ (List.mem_append_left _ (List.mem_append_left _ (List.mem_append_left _ (List.mem_of_getElem? (i := 0) rfl)))))))))))) (hts (.initialized "java/lang/IllegalStateException") (List.mem_cons_of_mem _ (List.mem_append_left _ (List.mem_append_left _ (List.mem_append_left _ (List.mem_append_left _ (List.mem_append_left _ (List.mem_append_left _ (List.mem_append_left _ (List.mem_append_left _ (List.mem_append_left _ (List.mem_of_getElem? (i := 1) rfl)))))))))))) hsa (zt_at2 hX (fun w h => hts w (List.mem_cons_of_mem _ (List.mem_append_left _ (List.mem_append_left _ (List.mem_append_right _ h)))))) zt_gd2 (zt_Zqw hX.1 zt_A2n) (zt_Zqw hX.2.1 zt_A2n) hS (hl.1.trans hml.symm) dX8_ask_32 dX8_ask_35 dX8_ask_36 dX8_ask_38 dX8_ask_41 (fun x hxx => (hnt x hxx).elim) (Nat.le_of_ble_eq_true rfl) (Nat.le_of_ble_eq_true rfl) (Nat.le_of_ble_eq_true rfl) (Nat.le_of_ble_eq_true rfl) hlocks (fun t hvm9 h1 h2 => by rw [← (zt_in3x hf).1, ← (zt_in3x hf).2]; exact zt_thrown hP hS h1 h2 (by exact Or.inr (Or.inl ⟨rfl, rfl⟩))) hS.2.2 (Nat.le_of_ble_eq_true rfl) (Nat.le_of_ble_eq_true rfl)

theorem zh_X8_told : yX8_told.cls = RX8 ∧ yX8_told.cls ≠ "java/lang/invoke/MethodHandle" ∧ yX8_told.cls ≠ "java/lang/invoke/VarHandle" ∧ (parseMethodDescriptor yX8_told.desc).map (fun d => d.parameters.length) = some 1 := by decide +kernel
set_option maxHeartbeats 4000000 in
set_option maxRecDepth 100000 in
theorem m_X8_told (l : Launch) (hl2 : l.stackTraces = false) (G : zt_G) {σ : zt_St} {x1 : Int32} {c9 r : Int32} {σ1 : zt_St} {sz : Nat} (hf : f_X8_told σ x1 = some (c9, r, σ1)) : zt_MXi l G yX8_told wsX8_told 6 82 1 6 [.ref (zt_ad G 0), .int x1] sz σ c9 r σ1 := by
  refine vx_ofW (cc := cX8_told) (maxL := 2) (ret := (some .int)) (by decide) rfl ?_
  intro p e s m args below meth c s₁ B hml hnt hv
  obtain ⟨rfl, rfl, hBB, hX⟩ := hv
  have hE := zt_B.env hBB; have hK := hE.2.1; have hP := hBB.2.1
  have hx := B.exec; have hb := B.bytes; have hr := B.returns; have hts := atoms_spec (ws := wsX8_told) B.pre
  have hown : s.vm.findClass RX8 = some m.cls := findClass_of_methodNamed B.named
  have hlocks := B.notSynchronized
  have hS : va_S (zt_A2 G s.heap.size) s.heap s.heap [] := va_S.rf
  have hl := lv_entry ([.ref (zt_ad G 0), .int x1]) (n := 2) (Nat.le_of_ble_eq_true rfl)
  rw [lg_entry_eq]
  generalize (lg_sl ([.ref (zt_ad G 0), .int x1]) ++ List.replicate (2 - (lg_sl ([.ref (zt_ad G 0), .int x1])).length) Slot.unset).toArray = ls at hl ⊢
  have hl : lv_has ls 2 [(0, .ref (zt_ad G 0)), (1, .int x1)] := hl
  show W p l e (zt_RX 6 82 1 6) s m ([.ref (zt_ad G 0), .int x1] : List Value).toArray below meth c s.heap [] 0 0 (vx_MQ below (zt_Yi G c9 r σ1 s.heap.size) (zt_XC G c9 σ1 s.heap.size) ([.ref (zt_ad G 0), .int x1] : List Value).toArray s 1 6 (zt_A2 G s.heap.size)) (F0 m 0 ls [])
  have fl35 := hts (.fieldLink RX8 35 "ZoneTree" "latest" "LZoneTree$Answer;") (List.mem_cons_of_mem _ (List.mem_append_left _ (List.mem_append_left _ (List.mem_append_left _ (List.mem_of_getElem? (i := 2) rfl)))))
  have inX8 : ∀ w ∈ wsX80, w ∈ wsX8_told := fun w h => (List.mem_cons_of_mem _ (List.mem_append_left _ (List.mem_append_left _ (List.mem_append_right _ h))))
  have B9 : ∀ (σ : zt_St) (H : Heap) (locs : List Loc) (ls : Array Slot), f_X8_told_9 σ = some (c9, r, σ1) → va_P (zt_D G) vwCl (zt_ww G σ) H → va_S (zt_A2 G s.heap.size) s.heap H locs → lv_has ls 2 [] → W p l e (zt_RX 6 82 1 6) s m ([.ref (zt_ad G 0), .int x1] : List Value).toArray below meth c H locs 0 0 (vx_MQ below (zt_Yi G c9 r σ1 s.heap.size) (zt_XC G c9 σ1 s.heap.size) ([.ref (zt_ad G 0), .int x1] : List Value).toArray s 1 6 (zt_A2 G s.heap.size)) (F0 m 9 ls []) := by
    intro σ H locs ls hf hP hS hl
    unfold f_X8_told_9 at hf
    obtain ⟨sa, hsa⟩ := hX.2.2.1 _ (List.mem_of_getElem? (l := zt_xs) (i := 5) rfl)
    exact vx_throwS (cls := "java/lang/IllegalArgumentException") (text := "what is asked of an answer is out of range") (names := ["java/lang/RuntimeException", "java/lang/Exception"]) (sa := sa) (A := zt_A2 G s.heap.size) hx hb hl2 hown (by decide +kernel) (by decide +kernel) (hts (.classLink RX8 51 "java/lang/IllegalArgumentException") (List.mem_cons_of_mem _ (List.mem_append_left _ (List.mem_append_left _ (List.mem_append_left _ (List.mem_of_getElem? (i := 0) rfl)))))) (hts (.initialized "java/lang/IllegalArgumentException") (List.mem_cons_of_mem _ (List.mem_append_left _ (List.mem_append_left _ (List.mem_append_left _ (List.mem_of_getElem? (i := 1) rfl)))))) hsa (zt_at1 hX (fun w h => hts w (List.mem_cons_of_mem _ (List.mem_append_right _ h)))) zt_gd1 (zt_Zqw hX.1 zt_A2n) (zt_Zqw hX.2.1 zt_A2n) hS (hl.1.trans hml.symm) dX8_told_9 dX8_told_12 dX8_told_13 dX8_told_15 dX8_told_18 (fun x hxx => (hnt x hxx).elim) (Nat.le_of_ble_eq_true rfl) (Nat.le_of_ble_eq_true rfl) (Nat.le_of_ble_eq_true rfl) (Nat.le_of_ble_eq_true rfl) hlocks (fun t hvm9 h1 h2 => by rw [← (zt_in3x hf).1, ← (zt_in3x hf).2]; exact zt_thrown hP hS h1 h2 (by exact Or.inl ⟨rfl, rfl⟩)) hS.2.2 (Nat.le_of_ble_eq_true rfl) (Nat.le_of_ble_eq_true rfl)
  unfold f_X8_told at hf
  refine lv_iload_n hx hb dX8_told_0 rfl (lv_at hl 1 rfl) ?_
  refine lv_if_lt (tgt := 9) hx hb dX8_told_1 (by decide) (fun c1 => ?_) (fun c1 => ?_)
  · have hf := (if_pos c1).symm.trans hf
    exact B9 σ _ _ _ hf hP hS (lv_sub hl [] rfl)
  · have hf := (if_neg c1).symm.trans hf
    refine lv_iload_n hx hb dX8_told_4 rfl (lv_at hl 1 rfl) ?_
    refine lv_iconst (v := 4) hx hb dX8_told_5 (by decide) ?_
    refine lv_icmp_le (tgt := 19) hx hb dX8_told_6 (by decide) (fun c2 => ?_) (fun c2 => ?_)
    · have hf := (if_pos c2).symm.trans hf
      refine lv_aload_n hx hb dX8_told_19 rfl (lv_at hl 0 rfl) ?_
      refine va_get (D := zt_D G) (ci := 7) (v := .ref (zt_ad G 92)) (C := RX8) (T := TX8) (N := 5) hx hb hts inX8 hown hK hP 0 (zt_a7 (rfl : zt_kd 0 = 7)) rfl 3 (by decide) fl35 (fun _ h9 => h9) rfl dX8_told_20 ?_
      refine lv_iload_n hx hb dX8_told_23 rfl (lv_at hl 1 rfl) ?_
      obtain ⟨v3, hvv3, hf⟩ := zt_bd_some hf
      refine va_calli (va_runV (As := [.int x1]) (rest := []) ⟨hx, hb, hml, hown, hts⟩ (m_X0_detail l G (rfl : zt_kd 92 = 0) (σ := σ) hvv3) (cwV 1 hts gX8_told_X0_detail rfl rfl rfl zh_X0_detail ⟨Nat.le_of_ble_eq_true rfl, Nat.le_of_ble_eq_true rfl⟩) ⟨zt_blind, va_recv hK hP (ci := 0) (q0 := 92) rfl (zt_a0 (rfl : zt_kd 92 = 0)), fun U hU hW => ⟨rfl, zt_go hE hP hS zt_id2 hU hW⟩⟩ rfl rfl hl.1 rfl (lv_room (Nat.le_of_ble_eq_true rfl)) dX8_told_24 ⟨Nat.le_of_ble_eq_true rfl, Nat.le_of_ble_eq_true rfl⟩) hS (fun _ _ h => Or.inl h) (fun _ h => Or.inl h) (fun r u t H locs ht hvm hw hB _ _ hS => ?_)
      rw [hw.1]; have hB : zt_B G u t := hB; rw [hw.2] at hB; have hP := zt_B.P hB ht
      refine W.cs (cells' := 0) (slots' := 0) rfl rfl ?_
      refine vx_ret ?_; refine W.widen (k := 1) (n := 6) (Nat.le_of_ble_eq_true rfl) (Nat.le_of_ble_eq_true rfl) ?_
      exact W.iret hx hb hr (fun t ht hW => ⟨⟨_, _, rfl, (zt_in3 hf), zt_go hE hP hS zt_id2 ht hW⟩, hS.F ht⟩) hS.2.2 dX8_told_27
    · have hf := (if_neg c2).symm.trans hf
      exact B9 σ _ _ _ hf hP hS (lv_sub hl [] rfl)

theorem zh_X8_neighbour : yX8_neighbour.cls = RX8 ∧ yX8_neighbour.cls ≠ "java/lang/invoke/MethodHandle" ∧ yX8_neighbour.cls ≠ "java/lang/invoke/VarHandle" ∧ (parseMethodDescriptor yX8_neighbour.desc).map (fun d => d.parameters.length) = some 3 := by decide +kernel
set_option maxHeartbeats 4000000 in
set_option maxRecDepth 100000 in
theorem m_X8_neighbour (l : Launch) (hl2 : l.stackTraces = false) (G : zt_G) {σ : zt_St} {x1 : Int32} {x2 : Int32} {x3 : Int32} {c9 r : Int32} {σ1 : zt_St} {sz : Nat} (hf : f_X8_neighbour σ x1 x2 x3 = some (c9, r, σ1)) : zt_MXi l G yX8_neighbour wsX8_neighbour 7 123 2 12 [.ref (zt_ad G 0), .int x1, .int x2, .int x3] sz σ c9 r σ1 := by
  refine vx_ofW (cc := cX8_neighbour) (maxL := 4) (ret := (some .int)) (by decide) rfl ?_
  intro p e s m args below meth c s₁ B hml hnt hv
  obtain ⟨rfl, rfl, hBB, hX⟩ := hv
  have hE := zt_B.env hBB; have hK := hE.2.1; have hP := hBB.2.1
  have hx := B.exec; have hb := B.bytes; have hr := B.returns; have hts := atoms_spec (ws := wsX8_neighbour) B.pre
  have hown : s.vm.findClass RX8 = some m.cls := findClass_of_methodNamed B.named
  have hlocks := B.notSynchronized
  have hS : va_S (zt_A2 G s.heap.size) s.heap s.heap [] := va_S.rf
  have hl := lv_entry ([.ref (zt_ad G 0), .int x1, .int x2, .int x3]) (n := 4) (Nat.le_of_ble_eq_true rfl)
  rw [lg_entry_eq]
  generalize (lg_sl ([.ref (zt_ad G 0), .int x1, .int x2, .int x3]) ++ List.replicate (4 - (lg_sl ([.ref (zt_ad G 0), .int x1, .int x2, .int x3])).length) Slot.unset).toArray = ls at hl ⊢
  have hl : lv_has ls 4 [(0, .ref (zt_ad G 0)), (1, .int x1), (2, .int x2), (3, .int x3)] := hl
  show W p l e (zt_RX 7 123 2 12) s m ([.ref (zt_ad G 0), .int x1, .int x2, .int x3] : List Value).toArray below meth c s.heap [] 0 0 (vx_MQ below (zt_Yi G c9 r σ1 s.heap.size) (zt_XC G c9 σ1 s.heap.size) ([.ref (zt_ad G 0), .int x1, .int x2, .int x3] : List Value).toArray s 2 12 (zt_A2 G s.heap.size)) (F0 m 0 ls [])
  have fl10 := hts (.fieldLink RX8 10 "ZoneTree" "zones" "LZoneTree$Zones;") (List.mem_cons_of_mem _ (List.mem_append_left _ (List.mem_append_left _ (List.mem_append_left _ (List.mem_append_left _ (List.mem_append_left _ (List.mem_append_left _ (List.mem_append_left _ (List.mem_of_getElem? (i := 2) rfl)))))))))
  have inX8 : ∀ w ∈ wsX80, w ∈ wsX8_neighbour := fun w h => (List.mem_cons_of_mem _ (List.mem_append_left _ (List.mem_append_left _ (List.mem_append_left _ (List.mem_append_left _ (List.mem_append_left _ (List.mem_append_right _ h)))))))
  unfold f_X8_neighbour at hf
  refine lv_aload_n hx hb dX8_neighbour_0 rfl (lv_at hl 0 rfl) ?_
  refine lv_iload_n hx hb dX8_neighbour_1 rfl (lv_at hl 1 rfl) ?_
  obtain ⟨e1, v1, σ2, hvv1, hzv1⟩ := zt_bx_some hf
  refine vx_callv (vx_runV (As := [.int x1]) (rest := []) ⟨hx, hb, hml, hown, hts⟩ (m_X8_checkZone l hl2 G (σ := σ) hvv1) (cwV 1 hts gX8_neighbour_X8_checkZone rfl rfl rfl zh_X8_checkZone ⟨Nat.le_of_ble_eq_true rfl, Nat.le_of_ble_eq_true rfl⟩) ⟨zt_blind2, va_recv hK hP (ci := 7) (q0 := 0) rfl (zt_a7 (rfl : zt_kd 0 = 7)), fun U hU hW => ⟨rfl, zt_go2 hE hX hP hS hU hW⟩⟩ rfl rfl hl.1 rfl (lv_room (Nat.le_of_ble_eq_true rfl)) dX8_neighbour_2 ⟨Nat.le_of_ble_eq_true rfl, Nat.le_of_ble_eq_true rfl⟩) hS (zt_dn hS) (zt_up hS) (zt_dn hS) (fun E ce q9 u t H locs ht hvm hw hB _ _ hS hce hcv hcl => ?_) (fun u t H locs ht hvm hw hB _ _ hS => ?_)
  · rcases hzv1 with ⟨h0, -⟩ | ⟨-, hf⟩
    · exact absurd h0 (zt_exc_ne hB.1)
    · refine vx_out (fun x hxx => (hnt x hxx).elim) hlocks hce hcv hcl (fun t2 ht2 hvm2 => ?_) hS.2.2 (Nat.le_of_ble_eq_true rfl) (Nat.le_of_ble_eq_true rfl)
      have hB2 := hB.2; rw [hw, ht] at hB2; rw [← (zt_in3x hf).1, ← (zt_in3x hf).2]; exact zt_passed hB2 hS ht2 hB.1
  rcases hzv1 with ⟨-, hf⟩ | ⟨h0, -⟩
  rotate_left
  · exact absurd hw.1 h0
  have hB : zt_B G u t := hB; rw [hw.2.2] at hB; have hP := zt_B.P hB ht
  refine W.cs (cells' := 1) (slots' := 6) rfl rfl ?_
  refine lv_iload_n hx hb dX8_neighbour_5 rfl (lv_at hl 2 rfl) ?_
  obtain ⟨v3, hvv3, hf⟩ := zt_bd_some hf
  refine va_calli (va_runS (As := [.int x2]) (rest := []) ⟨hx, hb, hml, hown, hts⟩ (m_X3_isPlace l G (σ := σ2) hvv3) (va_cwS 1 hts gX8_neighbour_X3_isPlace rfl rfl rfl zh_X3_isPlace ⟨Nat.le_of_ble_eq_true rfl, Nat.le_of_ble_eq_true rfl⟩) ⟨zt_blind, fun U hU hW => ⟨rfl, zt_go hE hP hS zt_id2 hU hW⟩⟩ rfl rfl hl.1 rfl (lv_room (Nat.le_of_ble_eq_true rfl)) dX8_neighbour_6 ⟨Nat.le_of_ble_eq_true rfl, Nat.le_of_ble_eq_true rfl⟩) hS (fun _ _ h => Or.inl h) (fun _ h => Or.inl h) (fun r u t H locs ht hvm hw hB _ _ hS => ?_)
  rw [hw.1]; have hB : zt_B G u t := hB; rw [hw.2] at hB; have hP := zt_B.P hB ht
  refine W.cs (cells' := 1) (slots' := 6) rfl rfl ?_
  refine lv_if_ne (tgt := 22) hx hb dX8_neighbour_9 (by decide) (fun c5 => ?_) (fun c5 => ?_)
  · have hf := (if_neg c5).symm.trans hf
    refine lv_aload_n hx hb dX8_neighbour_22 rfl (lv_at hl 0 rfl) ?_
    refine va_get (D := zt_D G) (ci := 7) (v := .ref (zt_ad G 1)) (C := RX8) (T := TX8) (N := 5) hx hb hts inX8 hown hK hP 0 (zt_a7 (rfl : zt_kd 0 = 7)) rfl 0 (by decide) fl10 (fun _ h9 => h9) rfl dX8_neighbour_23 ?_
    refine lv_iload_n hx hb dX8_neighbour_26 rfl (lv_at hl 1 rfl) ?_
    obtain ⟨z8, hvv6, hf⟩ := zt_bd_some hf; obtain ⟨g9, hf⟩ := zt_gd_some hf; have hz8 := of_decide_eq_true g9
    refine va_callr (va_runV (As := [.int x1]) (rest := []) ⟨hx, hb, hml, hown, hts⟩ (m_X7_at l G (σ := σ2) hvv6) (cwV 1 hts gX8_neighbour_X7_at rfl rfl rfl zh_X7_at ⟨Nat.le_of_ble_eq_true rfl, Nat.le_of_ble_eq_true rfl⟩) ⟨zt_blind, va_recv hK hP (ci := 6) (q0 := 1) rfl (zt_a6 (rfl : zt_kd 1 = 6)), fun U hU hW => ⟨rfl, zt_go hE hP hS zt_id2 hU hW⟩⟩ rfl rfl hl.1 rfl (lv_room (Nat.le_of_ble_eq_true rfl)) dX8_neighbour_27 ⟨Nat.le_of_ble_eq_true rfl, Nat.le_of_ble_eq_true rfl⟩) hS (fun _ _ h => Or.inl h) (fun _ h => Or.inl h) (fun u a t H locs ht hvm hw hB _ _ hS => ?_)
    rw [hB.1]; have hB : zt_B G u t := hB.2; rw [hw] at hB; have hP := zt_B.P hB ht
    refine W.cs (cells' := 1) (slots' := 6) rfl rfl ?_
    refine lv_iload_n hx hb dX8_neighbour_30 rfl (lv_at hl 2 rfl) ?_
    refine lv_iload_n hx hb dX8_neighbour_31 rfl (lv_at hl 3 rfl) ?_
    obtain ⟨v10, hvv10, hf⟩ := zt_bd_some hf
    refine va_calli (va_runV (As := [.int x2, .int x3]) (rest := []) ⟨hx, hb, hml, hown, hts⟩ (m_X6_nearest l G hz8 (σ := σ2) hvv10) (cwV 2 hts gX8_neighbour_X6_nearest rfl rfl rfl zh_X6_nearest ⟨Nat.le_of_ble_eq_true rfl, Nat.le_of_ble_eq_true rfl⟩) ⟨zt_blind, va_recv hK hP (ci := 5) (q0 := z8) rfl (zt_a5 hz8), fun U hU hW => ⟨rfl, zt_go hE hP hS zt_id2 hU hW⟩⟩ rfl rfl hl.1 rfl (lv_room (Nat.le_of_ble_eq_true rfl)) dX8_neighbour_32 ⟨Nat.le_of_ble_eq_true rfl, Nat.le_of_ble_eq_true rfl⟩) hS (fun _ _ h => Or.inl h) (fun _ h => Or.inl h) (fun r u t H locs ht hvm hw hB _ _ hS => ?_)
    rw [hw.1]; have hB : zt_B G u t := hB; rw [hw.2] at hB; have hP := zt_B.P hB ht
    refine W.cs (cells' := 1) (slots' := 6) rfl rfl ?_
    refine vx_ret ?_; refine W.widen (k := 2) (n := 12) (Nat.le_of_ble_eq_true rfl) (Nat.le_of_ble_eq_true rfl) ?_
    exact W.iret hx hb hr (fun t ht hW => ⟨⟨_, _, rfl, (zt_in3 hf), zt_go hE hP hS zt_id2 ht hW⟩, hS.F ht⟩) hS.2.2 dX8_neighbour_35
  · have hf := (if_pos c5).symm.trans hf
    obtain ⟨sa, hsa⟩ := hX.2.2.1 _ (List.mem_of_getElem? (l := zt_xs) (i := 6) rfl)
    exact vx_throwS (cls := "java/lang/IllegalArgumentException") (text := "neither a name nor a star") (names := ["java/lang/RuntimeException", "java/lang/Exception"]) (sa := sa) (A := zt_A2 G s.heap.size) hx hb hl2 hown (by decide +kernel) (by decide +kernel) (hts (.classLink RX8 51 "java/lang/IllegalArgumentException") (List.mem_cons_of_mem _ (List.mem_append_left _ (List.mem_append_left _ (List.mem_append_left _ (List.mem_append_left _ (List.mem_append_left _ (List.mem_append_left _ (List.mem_append_left _ (List.mem_of_getElem? (i := 0) rfl)))))))))) (hts (.initialized "java/lang/IllegalArgumentException") (List.mem_cons_of_mem _ (List.mem_append_left _ (List.mem_append_left _ (List.mem_append_left _ (List.mem_append_left _ (List.mem_append_left _ (List.mem_append_left _ (List.mem_append_left _ (List.mem_of_getElem? (i := 1) rfl)))))))))) hsa (zt_at1 hX (fun w h => hts w (List.mem_cons_of_mem _ (List.mem_append_left _ (List.mem_append_right _ h))))) zt_gd1 (zt_Zqw hX.1 zt_A2n) (zt_Zqw hX.2.1 zt_A2n) hS (hl.1.trans hml.symm) dX8_neighbour_12 dX8_neighbour_15 dX8_neighbour_16 dX8_neighbour_18 dX8_neighbour_21 (fun x hxx => (hnt x hxx).elim) (Nat.le_of_ble_eq_true rfl) (Nat.le_of_ble_eq_true rfl) (Nat.le_of_ble_eq_true rfl) (Nat.le_of_ble_eq_true rfl) hlocks (fun t hvm9 h1 h2 => by rw [← (zt_in3x hf).1, ← (zt_in3x hf).2]; exact zt_thrown hP hS h1 h2 (by exact Or.inl ⟨rfl, rfl⟩)) hS.2.2 (Nat.le_of_ble_eq_true rfl) (Nat.le_of_ble_eq_true rfl)

theorem zh_X8_resolve : yX8_resolve.cls = RX8 ∧ yX8_resolve.cls ≠ "java/lang/invoke/MethodHandle" ∧ yX8_resolve.cls ≠ "java/lang/invoke/VarHandle" ∧ (parseMethodDescriptor yX8_resolve.desc).map (fun d => d.parameters.length) = some 2 := by decide +kernel
set_option maxHeartbeats 4000000 in
set_option maxRecDepth 100000 in
theorem m_X8_resolve (l : Launch) (hl2 : l.stackTraces = false) (G : zt_G) {σ : zt_St} {x1 : Int32} {x2 : Int32} {c9 r : Int32} {σ1 : zt_St} {sz : Nat} (hf : f_X8_resolve σ x1 x2 = some (c9, r, σ1)) : zt_MXi l G yX8_resolve wsX8_resolve 7 171 1 6 [.ref (zt_ad G 0), .int x1, .int x2] sz σ c9 r σ1 := by
  refine vx_ofW (cc := cX8_resolve) (maxL := 3) (ret := (some .int)) (by decide) rfl ?_
  intro p e s m args below meth c s₁ B hml hnt hv
  obtain ⟨rfl, rfl, hBB, hX⟩ := hv
  have hE := zt_B.env hBB; have hK := hE.2.1; have hP := hBB.2.1
  have hx := B.exec; have hb := B.bytes; have hr := B.returns; have hts := atoms_spec (ws := wsX8_resolve) B.pre
  have hown : s.vm.findClass RX8 = some m.cls := findClass_of_methodNamed B.named
  have hlocks := B.notSynchronized
  have hS : va_S (zt_A2 G s.heap.size) s.heap s.heap [] := va_S.rf
  have hl := lv_entry ([.ref (zt_ad G 0), .int x1, .int x2]) (n := 3) (Nat.le_of_ble_eq_true rfl)
  rw [lg_entry_eq]
  generalize (lg_sl ([.ref (zt_ad G 0), .int x1, .int x2]) ++ List.replicate (3 - (lg_sl ([.ref (zt_ad G 0), .int x1, .int x2])).length) Slot.unset).toArray = ls at hl ⊢
  have hl : lv_has ls 3 [(0, .ref (zt_ad G 0)), (1, .int x1), (2, .int x2)] := hl
  show W p l e (zt_RX 7 171 1 6) s m ([.ref (zt_ad G 0), .int x1, .int x2] : List Value).toArray below meth c s.heap [] 0 0 (vx_MQ below (zt_Yi G c9 r σ1 s.heap.size) (zt_XC G c9 σ1 s.heap.size) ([.ref (zt_ad G 0), .int x1, .int x2] : List Value).toArray s 1 6 (zt_A2 G s.heap.size)) (F0 m 0 ls [])
  have fl28 := hts (.fieldLink RX8 28 "ZoneTree" "resolver" "LZoneTree$Resolver;") (List.mem_cons_of_mem _ (List.mem_append_left _ (List.mem_append_left _ (List.mem_append_left _ (List.mem_append_left _ (List.mem_append_left _ (List.mem_append_left _ (List.mem_append_left _ (List.mem_append_left _ (List.mem_append_left _ (List.mem_of_getElem? (i := 0) rfl)))))))))))
  have fl35 := hts (.fieldLink RX8 35 "ZoneTree" "latest" "LZoneTree$Answer;") (List.mem_cons_of_mem _ (List.mem_append_left _ (List.mem_append_left _ (List.mem_append_left _ (List.mem_append_left _ (List.mem_append_left _ (List.mem_append_left _ (List.mem_append_left _ (List.mem_append_left _ (List.mem_append_left _ (List.mem_of_getElem? (i := 1) rfl)))))))))))
  have fl152 := zt_Nw.use (args := ([.ref (zt_ad G 0), .int x1, .int x2] : List Value).toArray) hE.2.2.1 (q := ("ZoneTree", 152, "ZoneTree$Answer", "kind", "I", "ZoneTree")) (List.mem_of_getElem? (i := 15) rfl)
  have inX0 : ∀ w ∈ wsX00, w ∈ wsX8_resolve := fun w h => (List.mem_cons_of_mem _ (List.mem_append_left _ (List.mem_append_left _ (List.mem_append_left _ (List.mem_append_left _ (List.mem_append_left _ (List.mem_append_left _ (List.mem_append_right _ h))))))))
  have inX8 : ∀ w ∈ wsX80, w ∈ wsX8_resolve := fun w h => (List.mem_cons_of_mem _ (List.mem_append_left _ (List.mem_append_left _ (List.mem_append_left _ (List.mem_append_left _ (List.mem_append_left _ (List.mem_append_left _ (List.mem_append_left _ (List.mem_append_right _ h)))))))))
  unfold f_X8_resolve at hf
  refine lv_iload_n hx hb dX8_resolve_0 rfl (lv_at hl 1 rfl) ?_
  refine lv_iload_n hx hb dX8_resolve_1 rfl (lv_at hl 2 rfl) ?_
  obtain ⟨e1, v1, σ2, hvv1, hzv1⟩ := zt_bx_some hf
  refine vx_callv (vx_runS (As := [.int x1, .int x2]) (rest := []) ⟨hx, hb, hml, hown, hts⟩ (m_X8_checkNameAndSort l hl2 G (σ := σ) hvv1) (va_cwS 2 hts gX8_resolve_X8_checkNameAndSort rfl rfl rfl zh_X8_checkNameAndSort ⟨Nat.le_of_ble_eq_true rfl, Nat.le_of_ble_eq_true rfl⟩) ⟨zt_blind2, fun U hU hW => ⟨rfl, zt_go2 hE hX hP hS hU hW⟩⟩ rfl rfl hl.1 rfl (lv_room (Nat.le_of_ble_eq_true rfl)) dX8_resolve_2 ⟨Nat.le_of_ble_eq_true rfl, Nat.le_of_ble_eq_true rfl⟩) hS (zt_dn hS) (zt_up hS) (zt_dn hS) (fun E ce q9 u t H locs ht hvm hw hB _ _ hS hce hcv hcl => ?_) (fun u t H locs ht hvm hw hB _ _ hS => ?_)
  · rcases hzv1 with ⟨h0, -⟩ | ⟨-, hf⟩
    · exact absurd h0 (zt_exc_ne hB.1)
    · refine vx_out (fun x hxx => (hnt x hxx).elim) hlocks hce hcv hcl (fun t2 ht2 hvm2 => ?_) hS.2.2 (Nat.le_of_ble_eq_true rfl) (Nat.le_of_ble_eq_true rfl)
      have hB2 := hB.2; rw [hw, ht] at hB2; rw [← (zt_in3x hf).1, ← (zt_in3x hf).2]; exact zt_passed hB2 hS ht2 hB.1
  rcases hzv1 with ⟨-, hf⟩ | ⟨h0, -⟩
  rotate_left
  · exact absurd hw.1 h0
  have hB : zt_B G u t := hB; rw [hw.2.2] at hB; have hP := zt_B.P hB ht
  refine W.cs (cells' := 1) (slots' := 6) rfl rfl ?_
  refine lv_aload_n hx hb dX8_resolve_5 rfl (lv_at hl 0 rfl) ?_
  refine va_get (D := zt_D G) (ci := 7) (v := .ref (zt_ad G 80)) (C := RX8) (T := TX8) (N := 5) hx hb hts inX8 hown hK hP 0 (zt_a7 (rfl : zt_kd 0 = 7)) rfl 2 (by decide) fl28 (fun _ h9 => h9) rfl dX8_resolve_6 ?_
  refine lv_iload_n hx hb dX8_resolve_9 rfl (lv_at hl 1 rfl) ?_
  refine lv_iload_n hx hb dX8_resolve_10 rfl (lv_at hl 2 rfl) ?_
  refine lv_iconst (v := 0) hx hb dX8_resolve_11 (by decide) ?_
  refine lv_aload_n hx hb dX8_resolve_12 rfl (lv_at hl 0 rfl) ?_
  refine va_get (D := zt_D G) (ci := 7) (v := .ref (zt_ad G 92)) (C := RX8) (T := TX8) (N := 5) hx hb hts inX8 hown hK hP 0 (zt_a7 (rfl : zt_kd 0 = 7)) rfl 3 (by decide) fl35 (fun _ h9 => h9) rfl dX8_resolve_13 ?_
  obtain ⟨σ4, hvv3, hf⟩ := zt_bd_some hf
  refine va_callv (va_runV (As := [.int x1, .int x2, .int 0, .ref (zt_ad G 92)]) (rest := []) ⟨hx, hb, hml, hown, hts⟩ (m_X5_run l G (rfl : zt_kd 92 = 0) (σ := σ2) hvv3) (cwV 4 hts gX8_resolve_X5_run rfl rfl rfl zh_X5_run ⟨Nat.le_of_ble_eq_true rfl, Nat.le_of_ble_eq_true rfl⟩) ⟨zt_blind, va_recv hK hP (ci := 4) (q0 := 80) rfl (zt_a4 (rfl : zt_kd 80 = 4)), fun U hU hW => ⟨rfl, zt_go hE hP hS zt_id2 hU hW⟩⟩ rfl rfl hl.1 rfl (lv_room (Nat.le_of_ble_eq_true rfl)) dX8_resolve_16 ⟨Nat.le_of_ble_eq_true rfl, Nat.le_of_ble_eq_true rfl⟩) hS (fun _ _ h => Or.inl h) (fun _ h => Or.inl h) (fun u t H locs ht hvm hw hB _ _ hS => ?_)
  have hB : zt_B G u t := hB; rw [hw] at hB; have hP := zt_B.P hB ht
  refine W.cs (cells' := 1) (slots' := 6) rfl rfl ?_
  refine lv_aload_n hx hb dX8_resolve_19 rfl (lv_at hl 0 rfl) ?_
  refine va_get (D := zt_D G) (ci := 7) (v := .ref (zt_ad G 92)) (C := RX8) (T := TX8) (N := 5) hx hb hts inX8 hown hK hP 0 (zt_a7 (rfl : zt_kd 0 = 7)) rfl 3 (by decide) fl35 (fun _ h9 => h9) rfl dX8_resolve_20 ?_
  refine va_getN (D := zt_D G) (ci := 0) (v := .int (σ4 92 0)) (C := RX0) (T := TX0) (N := 8) hx hb hts inX0 hown hK hP 92 (zt_a0 (rfl : zt_kd 92 = 0)) rfl 0 (by decide) fl152 (fun _ h9 => h9) rfl dX8_resolve_23 ?_
  refine vx_ret ?_; refine W.widen (k := 1) (n := 6) (Nat.le_of_ble_eq_true rfl) (Nat.le_of_ble_eq_true rfl) ?_
  exact W.iret hx hb hr (fun t ht hW => ⟨⟨_, _, rfl, (zt_in3 hf), zt_go hE hP hS zt_id2 ht hW⟩, hS.F ht⟩) hS.2.2 dX8_resolve_26

theorem zh_X8_resolveAnew : yX8_resolveAnew.cls = RX8 ∧ yX8_resolveAnew.cls ≠ "java/lang/invoke/MethodHandle" ∧ yX8_resolveAnew.cls ≠ "java/lang/invoke/VarHandle" ∧ (parseMethodDescriptor yX8_resolveAnew.desc).map (fun d => d.parameters.length) = some 2 := by decide +kernel
set_option maxHeartbeats 4000000 in
set_option maxRecDepth 100000 in
theorem m_X8_resolveAnew (l : Launch) (hl2 : l.stackTraces = false) (G : zt_G) {σ : zt_St} {x1 : Int32} {x2 : Int32} {c9 r : Int32} {σ1 : zt_St} {sz : Nat} (hf : f_X8_resolveAnew σ x1 x2 = some (c9, r, σ1)) : zt_MXi l G yX8_resolveAnew wsX8_resolveAnew 7 171 1 6 [.ref (zt_ad G 0), .int x1, .int x2] sz σ c9 r σ1 := by
  refine vx_ofW (cc := cX8_resolveAnew) (maxL := 3) (ret := (some .int)) (by decide) rfl ?_
  intro p e s m args below meth c s₁ B hml hnt hv
  obtain ⟨rfl, rfl, hBB, hX⟩ := hv
  have hE := zt_B.env hBB; have hK := hE.2.1; have hP := hBB.2.1
  have hx := B.exec; have hb := B.bytes; have hr := B.returns; have hts := atoms_spec (ws := wsX8_resolveAnew) B.pre
  have hown : s.vm.findClass RX8 = some m.cls := findClass_of_methodNamed B.named
  have hlocks := B.notSynchronized
  have hS : va_S (zt_A2 G s.heap.size) s.heap s.heap [] := va_S.rf
  have hl := lv_entry ([.ref (zt_ad G 0), .int x1, .int x2]) (n := 3) (Nat.le_of_ble_eq_true rfl)
  rw [lg_entry_eq]
  generalize (lg_sl ([.ref (zt_ad G 0), .int x1, .int x2]) ++ List.replicate (3 - (lg_sl ([.ref (zt_ad G 0), .int x1, .int x2])).length) Slot.unset).toArray = ls at hl ⊢
  have hl : lv_has ls 3 [(0, .ref (zt_ad G 0)), (1, .int x1), (2, .int x2)] := hl
  show W p l e (zt_RX 7 171 1 6) s m ([.ref (zt_ad G 0), .int x1, .int x2] : List Value).toArray below meth c s.heap [] 0 0 (vx_MQ below (zt_Yi G c9 r σ1 s.heap.size) (zt_XC G c9 σ1 s.heap.size) ([.ref (zt_ad G 0), .int x1, .int x2] : List Value).toArray s 1 6 (zt_A2 G s.heap.size)) (F0 m 0 ls [])
  have fl28 := hts (.fieldLink RX8 28 "ZoneTree" "resolver" "LZoneTree$Resolver;") (List.mem_cons_of_mem _ (List.mem_append_left _ (List.mem_append_left _ (List.mem_append_left _ (List.mem_append_left _ (List.mem_append_left _ (List.mem_append_left _ (List.mem_append_left _ (List.mem_append_left _ (List.mem_append_left _ (List.mem_of_getElem? (i := 0) rfl)))))))))))
  have fl35 := hts (.fieldLink RX8 35 "ZoneTree" "latest" "LZoneTree$Answer;") (List.mem_cons_of_mem _ (List.mem_append_left _ (List.mem_append_left _ (List.mem_append_left _ (List.mem_append_left _ (List.mem_append_left _ (List.mem_append_left _ (List.mem_append_left _ (List.mem_append_left _ (List.mem_append_left _ (List.mem_of_getElem? (i := 1) rfl)))))))))))
  have fl152 := zt_Nw.use (args := ([.ref (zt_ad G 0), .int x1, .int x2] : List Value).toArray) hE.2.2.1 (q := ("ZoneTree", 152, "ZoneTree$Answer", "kind", "I", "ZoneTree")) (List.mem_of_getElem? (i := 15) rfl)
  have inX0 : ∀ w ∈ wsX00, w ∈ wsX8_resolveAnew := fun w h => (List.mem_cons_of_mem _ (List.mem_append_left _ (List.mem_append_left _ (List.mem_append_left _ (List.mem_append_left _ (List.mem_append_left _ (List.mem_append_left _ (List.mem_append_right _ h))))))))
  have inX8 : ∀ w ∈ wsX80, w ∈ wsX8_resolveAnew := fun w h => (List.mem_cons_of_mem _ (List.mem_append_left _ (List.mem_append_left _ (List.mem_append_left _ (List.mem_append_left _ (List.mem_append_left _ (List.mem_append_left _ (List.mem_append_left _ (List.mem_append_right _ h)))))))))
  unfold f_X8_resolveAnew at hf
  refine lv_iload_n hx hb dX8_resolveAnew_0 rfl (lv_at hl 1 rfl) ?_
  refine lv_iload_n hx hb dX8_resolveAnew_1 rfl (lv_at hl 2 rfl) ?_
  obtain ⟨e1, v1, σ2, hvv1, hzv1⟩ := zt_bx_some hf
  refine vx_callv (vx_runS (As := [.int x1, .int x2]) (rest := []) ⟨hx, hb, hml, hown, hts⟩ (m_X8_checkNameAndSort l hl2 G (σ := σ) hvv1) (va_cwS 2 hts gX8_resolveAnew_X8_checkNameAndSort rfl rfl rfl zh_X8_checkNameAndSort ⟨Nat.le_of_ble_eq_true rfl, Nat.le_of_ble_eq_true rfl⟩) ⟨zt_blind2, fun U hU hW => ⟨rfl, zt_go2 hE hX hP hS hU hW⟩⟩ rfl rfl hl.1 rfl (lv_room (Nat.le_of_ble_eq_true rfl)) dX8_resolveAnew_2 ⟨Nat.le_of_ble_eq_true rfl, Nat.le_of_ble_eq_true rfl⟩) hS (zt_dn hS) (zt_up hS) (zt_dn hS) (fun E ce q9 u t H locs ht hvm hw hB _ _ hS hce hcv hcl => ?_) (fun u t H locs ht hvm hw hB _ _ hS => ?_)
  · rcases hzv1 with ⟨h0, -⟩ | ⟨-, hf⟩
    · exact absurd h0 (zt_exc_ne hB.1)
    · refine vx_out (fun x hxx => (hnt x hxx).elim) hlocks hce hcv hcl (fun t2 ht2 hvm2 => ?_) hS.2.2 (Nat.le_of_ble_eq_true rfl) (Nat.le_of_ble_eq_true rfl)
      have hB2 := hB.2; rw [hw, ht] at hB2; rw [← (zt_in3x hf).1, ← (zt_in3x hf).2]; exact zt_passed hB2 hS ht2 hB.1
  rcases hzv1 with ⟨-, hf⟩ | ⟨h0, -⟩
  rotate_left
  · exact absurd hw.1 h0
  have hB : zt_B G u t := hB; rw [hw.2.2] at hB; have hP := zt_B.P hB ht
  refine W.cs (cells' := 1) (slots' := 6) rfl rfl ?_
  refine lv_aload_n hx hb dX8_resolveAnew_5 rfl (lv_at hl 0 rfl) ?_
  refine va_get (D := zt_D G) (ci := 7) (v := .ref (zt_ad G 80)) (C := RX8) (T := TX8) (N := 5) hx hb hts inX8 hown hK hP 0 (zt_a7 (rfl : zt_kd 0 = 7)) rfl 2 (by decide) fl28 (fun _ h9 => h9) rfl dX8_resolveAnew_6 ?_
  refine lv_iload_n hx hb dX8_resolveAnew_9 rfl (lv_at hl 1 rfl) ?_
  refine lv_iload_n hx hb dX8_resolveAnew_10 rfl (lv_at hl 2 rfl) ?_
  refine lv_iconst (v := 1) hx hb dX8_resolveAnew_11 (by decide) ?_
  refine lv_aload_n hx hb dX8_resolveAnew_12 rfl (lv_at hl 0 rfl) ?_
  refine va_get (D := zt_D G) (ci := 7) (v := .ref (zt_ad G 92)) (C := RX8) (T := TX8) (N := 5) hx hb hts inX8 hown hK hP 0 (zt_a7 (rfl : zt_kd 0 = 7)) rfl 3 (by decide) fl35 (fun _ h9 => h9) rfl dX8_resolveAnew_13 ?_
  obtain ⟨σ4, hvv3, hf⟩ := zt_bd_some hf
  refine va_callv (va_runV (As := [.int x1, .int x2, .int 1, .ref (zt_ad G 92)]) (rest := []) ⟨hx, hb, hml, hown, hts⟩ (m_X5_run l G (rfl : zt_kd 92 = 0) (σ := σ2) hvv3) (cwV 4 hts gX8_resolveAnew_X5_run rfl rfl rfl zh_X5_run ⟨Nat.le_of_ble_eq_true rfl, Nat.le_of_ble_eq_true rfl⟩) ⟨zt_blind, va_recv hK hP (ci := 4) (q0 := 80) rfl (zt_a4 (rfl : zt_kd 80 = 4)), fun U hU hW => ⟨rfl, zt_go hE hP hS zt_id2 hU hW⟩⟩ rfl rfl hl.1 rfl (lv_room (Nat.le_of_ble_eq_true rfl)) dX8_resolveAnew_16 ⟨Nat.le_of_ble_eq_true rfl, Nat.le_of_ble_eq_true rfl⟩) hS (fun _ _ h => Or.inl h) (fun _ h => Or.inl h) (fun u t H locs ht hvm hw hB _ _ hS => ?_)
  have hB : zt_B G u t := hB; rw [hw] at hB; have hP := zt_B.P hB ht
  refine W.cs (cells' := 1) (slots' := 6) rfl rfl ?_
  refine lv_aload_n hx hb dX8_resolveAnew_19 rfl (lv_at hl 0 rfl) ?_
  refine va_get (D := zt_D G) (ci := 7) (v := .ref (zt_ad G 92)) (C := RX8) (T := TX8) (N := 5) hx hb hts inX8 hown hK hP 0 (zt_a7 (rfl : zt_kd 0 = 7)) rfl 3 (by decide) fl35 (fun _ h9 => h9) rfl dX8_resolveAnew_20 ?_
  refine va_getN (D := zt_D G) (ci := 0) (v := .int (σ4 92 0)) (C := RX0) (T := TX0) (N := 8) hx hb hts inX0 hown hK hP 92 (zt_a0 (rfl : zt_kd 92 = 0)) rfl 0 (by decide) fl152 (fun _ h9 => h9) rfl dX8_resolveAnew_23 ?_
  refine vx_ret ?_; refine W.widen (k := 1) (n := 6) (Nat.le_of_ble_eq_true rfl) (Nat.le_of_ble_eq_true rfl) ?_
  exact W.iret hx hb hr (fun t ht hW => ⟨⟨_, _, rfl, (zt_in3 hf), zt_go hE hP hS zt_id2 ht hW⟩, hS.F ht⟩) hS.2.2 dX8_resolveAnew_26

theorem zh_X8_forget : yX8_forget.cls = RX8 ∧ yX8_forget.cls ≠ "java/lang/invoke/MethodHandle" ∧ yX8_forget.cls ≠ "java/lang/invoke/VarHandle" ∧ (parseMethodDescriptor yX8_forget.desc).map (fun d => d.parameters.length) = some 0 := by decide +kernel
set_option maxHeartbeats 4000000 in
set_option maxRecDepth 100000 in
theorem m_X8_forget (l : Launch) (G : zt_G) {σ : zt_St} {r : Int32} {σ1 : zt_St} (hf : f_X8_forget σ = some (r, σ1)) : zt_Mi l G yX8_forget wsX8_forget 3 66 [.ref (zt_ad G 0)] σ r σ1 := by
  refine Met.ofW (cc := cX8_forget) (maxL := 1) (ret := (some .int)) (by decide) rfl ?_
  intro p e s m args below meth c s₁ B hml hv
  obtain ⟨rfl, hBB⟩ := hv
  have hE := zt_B.env hBB; have hK := hE.2.1; have hP := hBB.2.1
  have hx := B.exec; have hb := B.bytes; have hr := B.returns; have hts := atoms_spec (ws := wsX8_forget) B.pre
  have hown : s.vm.findClass RX8 = some m.cls := findClass_of_methodNamed B.named
  have hlocks := B.notSynchronized
  have hS : va_S (zt_A G) s.heap s.heap [] := va_S.rf
  have hl := lv_entry ([.ref (zt_ad G 0)]) (n := 1) (Nat.le_of_ble_eq_true rfl)
  rw [lg_entry_eq]
  generalize (lg_sl ([.ref (zt_ad G 0)]) ++ List.replicate (1 - (lg_sl ([.ref (zt_ad G 0)])).length) Slot.unset).toArray = ls at hl ⊢
  have hl : lv_has ls 1 [(0, .ref (zt_ad G 0))] := hl
  show W p l e (zt_R 3 66) s m ([.ref (zt_ad G 0)] : List Value).toArray below meth c s.heap [] 0 0 (MQ below (zt_Ci G r σ1) ([.ref (zt_ad G 0)] : List Value).toArray s 0 0 (zt_A G)) (F0 m 0 ls [])
  have fl28 := hts (.fieldLink RX8 28 "ZoneTree" "resolver" "LZoneTree$Resolver;") (List.mem_cons_of_mem _ (List.mem_append_left _ (List.mem_append_left _ (List.mem_append_left _ (List.mem_of_getElem? (i := 0) rfl)))))
  have fl171 := zt_Nw.use (args := ([.ref (zt_ad G 0)] : List Value).toArray) hE.2.2.1 (q := ("ZoneTree", 171, "ZoneTree$Resolver", "kept", "LZoneTree$Kept;", "ZoneTree")) (List.mem_of_getElem? (i := 30) rfl)
  have fl175 := zt_Nw.use (args := ([.ref (zt_ad G 0)] : List Value).toArray) hE.2.2.1 (q := ("ZoneTree", 175, "ZoneTree$Resolver", "now", "I", "ZoneTree")) (List.mem_of_getElem? (i := 31) rfl)
  have inX5 : ∀ w ∈ wsX50, w ∈ wsX8_forget := fun w h => (List.mem_cons_of_mem _ (List.mem_append_left _ (List.mem_append_right _ h)))
  have inX8 : ∀ w ∈ wsX80, w ∈ wsX8_forget := fun w h => (List.mem_cons_of_mem _ (List.mem_append_left _ (List.mem_append_left _ (List.mem_append_right _ h))))
  unfold f_X8_forget at hf
  refine lv_aload_n hx hb dX8_forget_0 rfl (lv_at hl 0 rfl) ?_
  refine va_get (D := zt_D G) (ci := 7) (v := .ref (zt_ad G 80)) (C := RX8) (T := TX8) (N := 5) hx hb hts inX8 hown hK hP 0 (zt_a7 (rfl : zt_kd 0 = 7)) rfl 2 (by decide) fl28 (fun _ h9 => h9) rfl dX8_forget_1 ?_
  refine va_getN (D := zt_D G) (ci := 4) (v := .ref (zt_ad G 81)) (C := RX5) (T := TX5) (N := 15) hx hb hts inX5 hown hK hP 80 (zt_a4 (rfl : zt_kd 80 = 4)) rfl 1 (by decide) fl171 (fun _ h9 => h9) rfl dX8_forget_4 ?_
  refine lv_aload_n hx hb dX8_forget_7 rfl (lv_at hl 0 rfl) ?_
  refine va_get (D := zt_D G) (ci := 7) (v := .ref (zt_ad G 80)) (C := RX8) (T := TX8) (N := 5) hx hb hts inX8 hown hK hP 0 (zt_a7 (rfl : zt_kd 0 = 7)) rfl 2 (by decide) fl28 (fun _ h9 => h9) rfl dX8_forget_8 ?_
  refine va_getN (D := zt_D G) (ci := 4) (v := .int (σ 80 3)) (C := RX5) (T := TX5) (N := 15) hx hb hts inX5 hown hK hP 80 (zt_a4 (rfl : zt_kd 80 = 4)) rfl 3 (by decide) fl175 (fun _ h9 => h9) rfl dX8_forget_11 ?_
  obtain ⟨⟨v1a, σ2a⟩, hvv1, hf⟩ := zt_bd_some hf
  obtain ⟨v1, hv1, hf⟩ := zt_lt_some hf; obtain ⟨σ2, hσ2, hf⟩ := zt_lt_some hf; rw [show (v1a, σ2a) = (v1, σ2) from by rw [hv1, hσ2]] at hvv1
  refine va_calli (va_runV (As := [.int (σ 80 3)]) (rest := []) ⟨hx, hb, hml, hown, hts⟩ (m_X2_clear l G (σ := σ) hvv1) (cwV 1 hts gX8_forget_X2_clear rfl rfl rfl zh_X2_clear ⟨Nat.le_of_ble_eq_true rfl, Nat.le_of_ble_eq_true rfl⟩) ⟨zt_blind, va_recv hK hP (ci := 2) (q0 := 81) rfl (zt_a2 (rfl : zt_kd 81 = 2)), fun U hU hW => ⟨rfl, zt_go hE hP hS zt_id hU hW⟩⟩ rfl rfl hl.1 rfl (lv_room (Nat.le_of_ble_eq_true rfl)) dX8_forget_14 ⟨Nat.zero_le _, Nat.zero_le _⟩) hS (fun _ _ h => h) (fun _ h => h) (fun r u t H locs ht hvm hw hB _ _ hS => ?_)
  rw [hw.1]; have hB : zt_B G u t := hB; rw [hw.2] at hB; have hP := zt_B.P hB ht
  exact W.iret hx hb hr (fun t ht hW => ⟨⟨_, _, rfl, (Prod.mk.inj (Option.some.inj hf)), zt_go hE hP hS zt_id ht hW⟩, hS.F ht⟩) hS.2.2 dX8_forget_17

theorem zh_X8_pass : yX8_pass.cls = RX8 ∧ yX8_pass.cls ≠ "java/lang/invoke/MethodHandle" ∧ yX8_pass.cls ≠ "java/lang/invoke/VarHandle" ∧ (parseMethodDescriptor yX8_pass.desc).map (fun d => d.parameters.length) = some 1 := by decide +kernel
set_option maxHeartbeats 4000000 in
set_option maxRecDepth 100000 in
theorem m_X8_pass (l : Launch) (hl2 : l.stackTraces = false) (G : zt_G) {σ : zt_St} {x1 : Int32} {c9 r : Int32} {σ1 : zt_St} {sz : Nat} (hf : f_X8_pass σ x1 = some (c9, r, σ1)) : zt_MXi l G yX8_pass wsX8_pass 6 82 1 6 [.ref (zt_ad G 0), .int x1] sz σ c9 r σ1 := by
  refine vx_ofW (cc := cX8_pass) (maxL := 2) (ret := (some .int)) (by decide) rfl ?_
  intro p e s m args below meth c s₁ B hml hnt hv
  obtain ⟨rfl, rfl, hBB, hX⟩ := hv
  have hE := zt_B.env hBB; have hK := hE.2.1; have hP := hBB.2.1
  have hx := B.exec; have hb := B.bytes; have hr := B.returns; have hts := atoms_spec (ws := wsX8_pass) B.pre
  have hown : s.vm.findClass RX8 = some m.cls := findClass_of_methodNamed B.named
  have hlocks := B.notSynchronized
  have hS : va_S (zt_A2 G s.heap.size) s.heap s.heap [] := va_S.rf
  have hl := lv_entry ([.ref (zt_ad G 0), .int x1]) (n := 2) (Nat.le_of_ble_eq_true rfl)
  rw [lg_entry_eq]
  generalize (lg_sl ([.ref (zt_ad G 0), .int x1]) ++ List.replicate (2 - (lg_sl ([.ref (zt_ad G 0), .int x1])).length) Slot.unset).toArray = ls at hl ⊢
  have hl : lv_has ls 2 [(0, .ref (zt_ad G 0)), (1, .int x1)] := hl
  show W p l e (zt_RX 6 82 1 6) s m ([.ref (zt_ad G 0), .int x1] : List Value).toArray below meth c s.heap [] 0 0 (vx_MQ below (zt_Yi G c9 r σ1 s.heap.size) (zt_XC G c9 σ1 s.heap.size) ([.ref (zt_ad G 0), .int x1] : List Value).toArray s 1 6 (zt_A2 G s.heap.size)) (F0 m 0 ls [])
  have fl28 := hts (.fieldLink RX8 28 "ZoneTree" "resolver" "LZoneTree$Resolver;") (List.mem_cons_of_mem _ (List.mem_append_left _ (List.mem_append_left _ (List.mem_append_left _ (List.mem_of_getElem? (i := 2) rfl)))))
  have fl175 := zt_Nw.use (args := ([.ref (zt_ad G 0), .int x1] : List Value).toArray) hE.2.2.1 (q := ("ZoneTree", 175, "ZoneTree$Resolver", "now", "I", "ZoneTree")) (List.mem_of_getElem? (i := 31) rfl)
  have inX5 : ∀ w ∈ wsX50, w ∈ wsX8_pass := fun w h => (List.mem_cons_of_mem _ (List.mem_append_left _ (List.mem_append_right _ h)))
  have inX8 : ∀ w ∈ wsX80, w ∈ wsX8_pass := fun w h => (List.mem_cons_of_mem _ (List.mem_append_left _ (List.mem_append_left _ (List.mem_append_right _ h))))
  have B11 : ∀ (σ : zt_St) (H : Heap) (locs : List Loc) (ls : Array Slot), f_X8_pass_11 σ = some (c9, r, σ1) → va_P (zt_D G) vwCl (zt_ww G σ) H → va_S (zt_A2 G s.heap.size) s.heap H locs → lv_has ls 2 [] → W p l e (zt_RX 6 82 1 6) s m ([.ref (zt_ad G 0), .int x1] : List Value).toArray below meth c H locs 0 0 (vx_MQ below (zt_Yi G c9 r σ1 s.heap.size) (zt_XC G c9 σ1 s.heap.size) ([.ref (zt_ad G 0), .int x1] : List Value).toArray s 1 6 (zt_A2 G s.heap.size)) (F0 m 11 ls []) := by
    intro σ H locs ls hf hP hS hl
    unfold f_X8_pass_11 at hf
    obtain ⟨sa, hsa⟩ := hX.2.2.1 _ (List.mem_of_getElem? (l := zt_xs) (i := 7) rfl)
    exact vx_throwS (cls := "java/lang/IllegalArgumentException") (text := "the time is out of range") (names := ["java/lang/RuntimeException", "java/lang/Exception"]) (sa := sa) (A := zt_A2 G s.heap.size) hx hb hl2 hown (by decide +kernel) (by decide +kernel) (hts (.classLink RX8 51 "java/lang/IllegalArgumentException") (List.mem_cons_of_mem _ (List.mem_append_left _ (List.mem_append_left _ (List.mem_append_left _ (List.mem_of_getElem? (i := 0) rfl)))))) (hts (.initialized "java/lang/IllegalArgumentException") (List.mem_cons_of_mem _ (List.mem_append_left _ (List.mem_append_left _ (List.mem_append_left _ (List.mem_of_getElem? (i := 1) rfl)))))) hsa (zt_at1 hX (fun w h => hts w (List.mem_cons_of_mem _ (List.mem_append_right _ h)))) zt_gd1 (zt_Zqw hX.1 zt_A2n) (zt_Zqw hX.2.1 zt_A2n) hS (hl.1.trans hml.symm) dX8_pass_11 dX8_pass_14 dX8_pass_15 dX8_pass_17 dX8_pass_20 (fun x hxx => (hnt x hxx).elim) (Nat.le_of_ble_eq_true rfl) (Nat.le_of_ble_eq_true rfl) (Nat.le_of_ble_eq_true rfl) (Nat.le_of_ble_eq_true rfl) hlocks (fun t hvm9 h1 h2 => by rw [← (zt_in3x hf).1, ← (zt_in3x hf).2]; exact zt_thrown hP hS h1 h2 (by exact Or.inl ⟨rfl, rfl⟩)) hS.2.2 (Nat.le_of_ble_eq_true rfl) (Nat.le_of_ble_eq_true rfl)
  unfold f_X8_pass at hf
  refine lv_iload_n hx hb dX8_pass_0 rfl (lv_at hl 1 rfl) ?_
  refine lv_iconst (v := 1) hx hb dX8_pass_1 (by decide) ?_
  refine lv_icmp_lt (tgt := 11) hx hb dX8_pass_2 (by decide) (fun c1 => ?_) (fun c1 => ?_)
  · have hf := (if_pos c1).symm.trans hf
    exact B11 σ _ _ _ hf hP hS (lv_sub hl [] rfl)
  · have hf := (if_neg c1).symm.trans hf
    refine lv_iload_n hx hb dX8_pass_5 rfl (lv_at hl 1 rfl) ?_
    refine lv_bipush (v := 100) hx hb dX8_pass_6 (by decide +kernel) ?_
    refine lv_icmp_le (tgt := 21) hx hb dX8_pass_8 (by decide) (fun c2 => ?_) (fun c2 => ?_)
    · have hf := (if_pos c2).symm.trans hf
      refine lv_aload_n hx hb dX8_pass_21 rfl (lv_at hl 0 rfl) ?_
      refine va_get (D := zt_D G) (ci := 7) (v := .ref (zt_ad G 80)) (C := RX8) (T := TX8) (N := 5) hx hb hts inX8 hown hK hP 0 (zt_a7 (rfl : zt_kd 0 = 7)) rfl 2 (by decide) fl28 (fun _ h9 => h9) rfl dX8_pass_22 ?_
      refine lv_dup hx hb dX8_pass_25 rfl ?_
      refine va_getN (D := zt_D G) (ci := 4) (v := .int (σ 80 3)) (C := RX5) (T := TX5) (N := 15) hx hb hts inX5 hown hK hP 80 (zt_a4 (rfl : zt_kd 80 = 4)) rfl 3 (by decide) fl175 (fun _ h9 => h9) rfl dX8_pass_26 ?_
      refine lv_iload_n hx hb dX8_pass_29 rfl (lv_at hl 1 rfl) ?_
      refine lv_iadd hx hb dX8_pass_30 ?_
      obtain ⟨σ3, hσ3, hf⟩ := zt_lt_some hf
      refine va_putN (D := zt_D G) (ci := 4) (v := .int ((σ 80 3) + x1)) (ty := .int) (C := RX5) (T := TX5) (N := 15) hx hb hts inX5 tyX5 tyX5_ok nmX5 hown hK hP (zt_apart2 hE.1) hS 80 (zt_a4 (rfl : zt_kd 80 = 4)) rfl 3 (by decide) fl175 (fun _ h9 => h9) rfl (tyX5_ok 3 (by decide)) rfl rfl (Nat.le_of_ble_eq_true rfl) dX8_pass_31 (fun H locs hP _ hS => ?_)
      rw [zt_p4_3 (rfl : zt_kd 80 = 4), ← hσ3] at hP
      refine lv_aload_n hx hb dX8_pass_34 rfl (lv_at hl 0 rfl) ?_
      refine va_get (D := zt_D G) (ci := 7) (v := .ref (zt_ad G 80)) (C := RX8) (T := TX8) (N := 5) hx hb hts inX8 hown hK hP 0 (zt_a7 (rfl : zt_kd 0 = 7)) rfl 2 (by decide) fl28 (fun _ h9 => h9) rfl dX8_pass_35 ?_
      refine va_getN (D := zt_D G) (ci := 4) (v := .int (σ3 80 3)) (C := RX5) (T := TX5) (N := 15) hx hb hts inX5 hown hK hP 80 (zt_a4 (rfl : zt_kd 80 = 4)) rfl 3 (by decide) fl175 (fun _ h9 => h9) rfl dX8_pass_38 ?_
      refine vx_ret ?_; refine W.widen (k := 1) (n := 6) (Nat.le_of_ble_eq_true rfl) (Nat.le_of_ble_eq_true rfl) ?_
      exact W.iret hx hb hr (fun t ht hW => ⟨⟨_, _, rfl, (zt_in3 hf), zt_go hE hP hS zt_id2 ht hW⟩, hS.F ht⟩) hS.2.2 dX8_pass_41
    · have hf := (if_neg c2).symm.trans hf
      exact B11 σ _ _ _ hf hP hS (lv_sub hl [] rfl)

theorem zh_X8_isKeyOrNone : yX8_isKeyOrNone.cls ≠ "java/lang/invoke/MethodHandle" ∧ yX8_isKeyOrNone.cls ≠ "java/lang/invoke/VarHandle" ∧ (parseMethodDescriptor yX8_isKeyOrNone.desc).map (fun d => d.parameters.length) = some 1 := by decide +kernel
set_option maxHeartbeats 4000000 in
set_option maxRecDepth 100000 in
theorem m_X8_isKeyOrNone (l : Launch) (G : zt_G) {σ : zt_St} {x0 : Int32} {r : Int32} (hf : f_X8_isKeyOrNone x0 = some r) : zt_Mi l G yX8_isKeyOrNone wsX8_isKeyOrNone 0 0 [.int x0] σ r σ := by
  refine Met.ofW (cc := cX8_isKeyOrNone) (maxL := 1) (ret := (some .boolean)) (by decide) rfl ?_
  intro p e s m args below meth c s₁ B hml hv
  obtain ⟨rfl, hBB⟩ := hv
  have hE := zt_B.env hBB; have hK := hE.2.1; have hP := hBB.2.1
  have hx := B.exec; have hb := B.bytes; have hr := B.returns; have hts := atoms_spec (ws := wsX8_isKeyOrNone) B.pre
  have hown : s.vm.findClass RX8 = some m.cls := findClass_of_methodNamed B.named
  have hlocks := B.notSynchronized
  have hS : va_S (zt_A G) s.heap s.heap [] := va_S.rf
  have hl := lv_entry ([.int x0]) (n := 1) (Nat.le_of_ble_eq_true rfl)
  rw [lg_entry_eq]
  generalize (lg_sl ([.int x0]) ++ List.replicate (1 - (lg_sl ([.int x0])).length) Slot.unset).toArray = ls at hl ⊢
  have hl : lv_has ls 1 [(0, .int x0)] := hl
  show W p l e (zt_R 0 0) s m ([.int x0] : List Value).toArray below meth c s.heap [] 0 0 (MQ below (zt_Ci G r σ) ([.int x0] : List Value).toArray s 0 0 (zt_A G)) (F0 m 0 ls [])
  have B15 : ∀ (H : Heap) (locs : List Loc) (ls : Array Slot), f_X8_isKeyOrNone_15 = some r → va_P (zt_D G) vwCl (zt_ww G σ) H → va_S (zt_A G) s.heap H locs → lv_has ls 1 [] → W p l e (zt_R 0 0) s m ([.int x0] : List Value).toArray below meth c H locs 0 0 (MQ below (zt_Ci G r σ) ([.int x0] : List Value).toArray s 0 0 (zt_A G)) (F0 m 15 ls []) := by
    intro H locs ls hf hP hS hl
    unfold f_X8_isKeyOrNone_15 at hf
    refine lv_iconst (v := 1) hx hb dX8_isKeyOrNone_15 (by decide) ?_
    refine lv_goto (tgt := 20) hx hb dX8_isKeyOrNone_16 (by decide) ?_
    exact W.zret hx hb hr (zt_bn (by decide)).1 (fun t ht hW => ⟨⟨_, _, rfl, ⟨Option.some.inj hf, rfl⟩, zt_go hE hP hS zt_id ht hW⟩, hS.F ht⟩) hS.2.2 dX8_isKeyOrNone_20
  unfold f_X8_isKeyOrNone at hf
  refine lv_iload_n hx hb dX8_isKeyOrNone_0 rfl (lv_at hl 0 rfl) ?_
  refine lv_iconst (v := (-1)) hx hb dX8_isKeyOrNone_1 (by decide) ?_
  refine lv_icmp_eq (tgt := 15) hx hb dX8_isKeyOrNone_2 (by decide) (fun c1 => ?_) (fun c1 => ?_)
  · have hf := (if_pos c1).symm.trans hf
    exact B15 _ _ _ hf hP hS (lv_sub hl [] rfl)
  · have hf := (if_neg c1).symm.trans hf
    refine lv_iload_n hx hb dX8_isKeyOrNone_5 rfl (lv_at hl 0 rfl) ?_
    refine lv_if_lt (tgt := 19) hx hb dX8_isKeyOrNone_6 (by decide) (fun c2 => ?_) (fun c2 => ?_)
    · have hf := (if_pos c2).symm.trans hf
      refine lv_iconst (v := 0) hx hb dX8_isKeyOrNone_19 (by decide) ?_
      exact W.zret hx hb hr (zt_bn (by decide)).1 (fun t ht hW => ⟨⟨_, _, rfl, ⟨Option.some.inj hf, rfl⟩, zt_go hE hP hS zt_id ht hW⟩, hS.F ht⟩) hS.2.2 dX8_isKeyOrNone_20
    · have hf := (if_neg c2).symm.trans hf
      refine lv_iload_n hx hb dX8_isKeyOrNone_9 rfl (lv_at hl 0 rfl) ?_
      refine lv_bipush (v := 100) hx hb dX8_isKeyOrNone_10 (by decide +kernel) ?_
      refine lv_icmp_ge (tgt := 19) hx hb dX8_isKeyOrNone_12 (by decide) (fun c3 => ?_) (fun c3 => ?_)
      · have hf := (if_pos c3).symm.trans hf
        refine lv_iconst (v := 0) hx hb dX8_isKeyOrNone_19 (by decide) ?_
        exact W.zret hx hb hr (zt_bn (by decide)).1 (fun t ht hW => ⟨⟨_, _, rfl, ⟨Option.some.inj hf, rfl⟩, zt_go hE hP hS zt_id ht hW⟩, hS.F ht⟩) hS.2.2 dX8_isKeyOrNone_20
      · have hf := (if_neg c3).symm.trans hf
        exact B15 _ _ _ hf hP hS (lv_sub hl [] rfl)

theorem zh_X8_setKey : yX8_setKey.cls = RX8 ∧ yX8_setKey.cls ≠ "java/lang/invoke/MethodHandle" ∧ yX8_setKey.cls ≠ "java/lang/invoke/VarHandle" ∧ (parseMethodDescriptor yX8_setKey.desc).map (fun d => d.parameters.length) = some 3 := by decide +kernel
set_option maxHeartbeats 4000000 in
set_option maxRecDepth 100000 in
theorem m_X8_setKey (l : Launch) (hl2 : l.stackTraces = false) (G : zt_G) {σ : zt_St} {x1 : Int32} {x2 : Int32} {x3 : Int32} {c9 r : Int32} {σ1 : zt_St} {sz : Nat} (hf : f_X8_setKey σ x1 x2 x3 = some (c9, r, σ1)) : zt_MXi l G yX8_setKey wsX8_setKey 7 103 2 12 [.ref (zt_ad G 0), .int x1, .int x2, .int x3] sz σ c9 r σ1 := by
  refine vx_ofW (cc := cX8_setKey) (maxL := 4) (ret := (some .int)) (by decide) rfl ?_
  intro p e s m args below meth c s₁ B hml hnt hv
  obtain ⟨rfl, rfl, hBB, hX⟩ := hv
  have hE := zt_B.env hBB; have hK := hE.2.1; have hP := hBB.2.1
  have hx := B.exec; have hb := B.bytes; have hr := B.returns; have hts := atoms_spec (ws := wsX8_setKey) B.pre
  have hown : s.vm.findClass RX8 = some m.cls := findClass_of_methodNamed B.named
  have hlocks := B.notSynchronized
  have hS : va_S (zt_A2 G s.heap.size) s.heap s.heap [] := va_S.rf
  have hl := lv_entry ([.ref (zt_ad G 0), .int x1, .int x2, .int x3]) (n := 4) (Nat.le_of_ble_eq_true rfl)
  rw [lg_entry_eq]
  generalize (lg_sl ([.ref (zt_ad G 0), .int x1, .int x2, .int x3]) ++ List.replicate (4 - (lg_sl ([.ref (zt_ad G 0), .int x1, .int x2, .int x3])).length) Slot.unset).toArray = ls at hl ⊢
  have hl : lv_has ls 4 [(0, .ref (zt_ad G 0)), (1, .int x1), (2, .int x2), (3, .int x3)] := hl
  show W p l e (zt_RX 7 103 2 12) s m ([.ref (zt_ad G 0), .int x1, .int x2, .int x3] : List Value).toArray below meth c s.heap [] 0 0 (vx_MQ below (zt_Yi G c9 r σ1 s.heap.size) (zt_XC G c9 σ1 s.heap.size) ([.ref (zt_ad G 0), .int x1, .int x2, .int x3] : List Value).toArray s 2 12 (zt_A2 G s.heap.size)) (F0 m 0 ls [])
  have fl10 := hts (.fieldLink RX8 10 "ZoneTree" "zones" "LZoneTree$Zones;") (List.mem_cons_of_mem _ (List.mem_append_left _ (List.mem_append_left _ (List.mem_append_left _ (List.mem_append_left _ (List.mem_append_left _ (List.mem_append_left _ (List.mem_of_getElem? (i := 2) rfl))))))))
  have inX8 : ∀ w ∈ wsX80, w ∈ wsX8_setKey := fun w h => (List.mem_cons_of_mem _ (List.mem_append_left _ (List.mem_append_left _ (List.mem_append_left _ (List.mem_append_left _ (List.mem_append_right _ h))))))
  have B21 : ∀ (σ : zt_St) (H : Heap) (locs : List Loc) (ls : Array Slot), f_X8_setKey_21 σ = some (c9, r, σ1) → va_P (zt_D G) vwCl (zt_ww G σ) H → va_S (zt_A2 G s.heap.size) s.heap H locs → lv_has ls 4 [] → W p l e (zt_RX 7 103 2 12) s m ([.ref (zt_ad G 0), .int x1, .int x2, .int x3] : List Value).toArray below meth c H locs 1 6 (vx_MQ below (zt_Yi G c9 r σ1 s.heap.size) (zt_XC G c9 σ1 s.heap.size) ([.ref (zt_ad G 0), .int x1, .int x2, .int x3] : List Value).toArray s 2 12 (zt_A2 G s.heap.size)) (F0 m 21 ls []) := by
    intro σ H locs ls hf hP hS hl
    unfold f_X8_setKey_21 at hf
    obtain ⟨sa, hsa⟩ := hX.2.2.1 _ (List.mem_of_getElem? (l := zt_xs) (i := 8) rfl)
    exact vx_throwS (cls := "java/lang/IllegalArgumentException") (text := "the slot or the key is out of range") (names := ["java/lang/RuntimeException", "java/lang/Exception"]) (sa := sa) (A := zt_A2 G s.heap.size) hx hb hl2 hown (by decide +kernel) (by decide +kernel) (hts (.classLink RX8 51 "java/lang/IllegalArgumentException") (List.mem_cons_of_mem _ (List.mem_append_left _ (List.mem_append_left _ (List.mem_append_left _ (List.mem_append_left _ (List.mem_append_left _ (List.mem_append_left _ (List.mem_of_getElem? (i := 0) rfl))))))))) (hts (.initialized "java/lang/IllegalArgumentException") (List.mem_cons_of_mem _ (List.mem_append_left _ (List.mem_append_left _ (List.mem_append_left _ (List.mem_append_left _ (List.mem_append_left _ (List.mem_append_left _ (List.mem_of_getElem? (i := 1) rfl))))))))) hsa (zt_at1 hX (fun w h => hts w (List.mem_cons_of_mem _ (List.mem_append_left _ (List.mem_append_right _ h))))) zt_gd1 (zt_Zqw hX.1 zt_A2n) (zt_Zqw hX.2.1 zt_A2n) hS (hl.1.trans hml.symm) dX8_setKey_21 dX8_setKey_24 dX8_setKey_25 dX8_setKey_27 dX8_setKey_30 (fun x hxx => (hnt x hxx).elim) (Nat.le_of_ble_eq_true rfl) (Nat.le_of_ble_eq_true rfl) (Nat.le_of_ble_eq_true rfl) (Nat.le_of_ble_eq_true rfl) hlocks (fun t hvm9 h1 h2 => by rw [← (zt_in3x hf).1, ← (zt_in3x hf).2]; exact zt_thrown hP hS h1 h2 (by exact Or.inl ⟨rfl, rfl⟩)) hS.2.2 (Nat.le_of_ble_eq_true rfl) (Nat.le_of_ble_eq_true rfl)
  unfold f_X8_setKey at hf
  refine lv_aload_n hx hb dX8_setKey_0 rfl (lv_at hl 0 rfl) ?_
  refine lv_iload_n hx hb dX8_setKey_1 rfl (lv_at hl 1 rfl) ?_
  obtain ⟨e1, v1, σ2, hvv1, hzv1⟩ := zt_bx_some hf
  refine vx_callv (vx_runV (As := [.int x1]) (rest := []) ⟨hx, hb, hml, hown, hts⟩ (m_X8_checkZone l hl2 G (σ := σ) hvv1) (cwV 1 hts gX8_setKey_X8_checkZone rfl rfl rfl zh_X8_checkZone ⟨Nat.le_of_ble_eq_true rfl, Nat.le_of_ble_eq_true rfl⟩) ⟨zt_blind2, va_recv hK hP (ci := 7) (q0 := 0) rfl (zt_a7 (rfl : zt_kd 0 = 7)), fun U hU hW => ⟨rfl, zt_go2 hE hX hP hS hU hW⟩⟩ rfl rfl hl.1 rfl (lv_room (Nat.le_of_ble_eq_true rfl)) dX8_setKey_2 ⟨Nat.le_of_ble_eq_true rfl, Nat.le_of_ble_eq_true rfl⟩) hS (zt_dn hS) (zt_up hS) (zt_dn hS) (fun E ce q9 u t H locs ht hvm hw hB _ _ hS hce hcv hcl => ?_) (fun u t H locs ht hvm hw hB _ _ hS => ?_)
  · rcases hzv1 with ⟨h0, -⟩ | ⟨-, hf⟩
    · exact absurd h0 (zt_exc_ne hB.1)
    · refine vx_out (fun x hxx => (hnt x hxx).elim) hlocks hce hcv hcl (fun t2 ht2 hvm2 => ?_) hS.2.2 (Nat.le_of_ble_eq_true rfl) (Nat.le_of_ble_eq_true rfl)
      have hB2 := hB.2; rw [hw, ht] at hB2; rw [← (zt_in3x hf).1, ← (zt_in3x hf).2]; exact zt_passed hB2 hS ht2 hB.1
  rcases hzv1 with ⟨-, hf⟩ | ⟨h0, -⟩
  rotate_left
  · exact absurd hw.1 h0
  have hB : zt_B G u t := hB; rw [hw.2.2] at hB; have hP := zt_B.P hB ht
  refine W.cs (cells' := 1) (slots' := 6) rfl rfl ?_
  refine lv_iload_n hx hb dX8_setKey_5 rfl (lv_at hl 2 rfl) ?_
  refine lv_if_lt (tgt := 21) hx hb dX8_setKey_6 (by decide) (fun c3 => ?_) (fun c3 => ?_)
  · have hf := (if_pos c3).symm.trans hf
    exact B21 σ2 _ _ _ hf hP hS (lv_sub hl [] rfl)
  · have hf := (if_neg c3).symm.trans hf
    refine lv_iload_n hx hb dX8_setKey_9 rfl (lv_at hl 2 rfl) ?_
    refine lv_iconst (v := 1) hx hb dX8_setKey_10 (by decide) ?_
    refine lv_icmp_gt (tgt := 21) hx hb dX8_setKey_11 (by decide) (fun c4 => ?_) (fun c4 => ?_)
    · have hf := (if_pos c4).symm.trans hf
      exact B21 σ2 _ _ _ hf hP hS (lv_sub hl [] rfl)
    · have hf := (if_neg c4).symm.trans hf
      refine lv_iload_n hx hb dX8_setKey_14 rfl (lv_at hl 3 rfl) ?_
      obtain ⟨v5, hvv5, hf⟩ := zt_bd_some hf
      refine va_calli (va_runS (As := [.int x3]) (rest := []) ⟨hx, hb, hml, hown, hts⟩ (m_X8_isKeyOrNone l G (σ := σ2) hvv5) (va_cwS 1 hts gX8_setKey_X8_isKeyOrNone rfl rfl rfl zh_X8_isKeyOrNone ⟨Nat.le_of_ble_eq_true rfl, Nat.le_of_ble_eq_true rfl⟩) ⟨zt_blind, fun U hU hW => ⟨rfl, zt_go hE hP hS zt_id2 hU hW⟩⟩ rfl rfl hl.1 rfl (lv_room (Nat.le_of_ble_eq_true rfl)) dX8_setKey_15 ⟨Nat.le_of_ble_eq_true rfl, Nat.le_of_ble_eq_true rfl⟩) hS (fun _ _ h => Or.inl h) (fun _ h => Or.inl h) (fun r u t H locs ht hvm hw hB _ _ hS => ?_)
      rw [hw.1]; have hB : zt_B G u t := hB; rw [hw.2] at hB; have hP := zt_B.P hB ht
      refine W.cs (cells' := 1) (slots' := 6) rfl rfl ?_
      refine lv_if_ne (tgt := 31) hx hb dX8_setKey_18 (by decide) (fun c7 => ?_) (fun c7 => ?_)
      · have hf := (if_neg c7).symm.trans hf
        refine lv_aload_n hx hb dX8_setKey_31 rfl (lv_at hl 0 rfl) ?_
        refine va_get (D := zt_D G) (ci := 7) (v := .ref (zt_ad G 1)) (C := RX8) (T := TX8) (N := 5) hx hb hts inX8 hown hK hP 0 (zt_a7 (rfl : zt_kd 0 = 7)) rfl 0 (by decide) fl10 (fun _ h9 => h9) rfl dX8_setKey_32 ?_
        refine lv_iload_n hx hb dX8_setKey_35 rfl (lv_at hl 1 rfl) ?_
        obtain ⟨z10, hvv8, hf⟩ := zt_bd_some hf; obtain ⟨g11, hf⟩ := zt_gd_some hf; have hz10 := of_decide_eq_true g11
        refine va_callr (va_runV (As := [.int x1]) (rest := []) ⟨hx, hb, hml, hown, hts⟩ (m_X7_at l G (σ := σ2) hvv8) (cwV 1 hts gX8_setKey_X7_at rfl rfl rfl zh_X7_at ⟨Nat.le_of_ble_eq_true rfl, Nat.le_of_ble_eq_true rfl⟩) ⟨zt_blind, va_recv hK hP (ci := 6) (q0 := 1) rfl (zt_a6 (rfl : zt_kd 1 = 6)), fun U hU hW => ⟨rfl, zt_go hE hP hS zt_id2 hU hW⟩⟩ rfl rfl hl.1 rfl (lv_room (Nat.le_of_ble_eq_true rfl)) dX8_setKey_36 ⟨Nat.le_of_ble_eq_true rfl, Nat.le_of_ble_eq_true rfl⟩) hS (fun _ _ h => Or.inl h) (fun _ h => Or.inl h) (fun u a t H locs ht hvm hw hB _ _ hS => ?_)
        rw [hB.1]; have hB : zt_B G u t := hB.2; rw [hw] at hB; have hP := zt_B.P hB ht
        refine W.cs (cells' := 1) (slots' := 6) rfl rfl ?_
        refine lv_iload_n hx hb dX8_setKey_39 rfl (lv_at hl 2 rfl) ?_
        refine lv_iload_n hx hb dX8_setKey_40 rfl (lv_at hl 3 rfl) ?_
        obtain ⟨⟨v12a, σ13a⟩, hvv12, hf⟩ := zt_bd_some hf
        obtain ⟨v12, hv12, hf⟩ := zt_lt_some hf; obtain ⟨σ13, hσ13, hf⟩ := zt_lt_some hf; rw [show (v12a, σ13a) = (v12, σ13) from by rw [hv12, hσ13]] at hvv12
        refine va_calli (va_runV (As := [.int x2, .int x3]) (rest := []) ⟨hx, hb, hml, hown, hts⟩ (m_X6_changeKey l G hz10 (σ := σ2) hvv12) (cwV 2 hts gX8_setKey_X6_changeKey rfl rfl rfl zh_X6_changeKey ⟨Nat.le_of_ble_eq_true rfl, Nat.le_of_ble_eq_true rfl⟩) ⟨zt_blind, va_recv hK hP (ci := 5) (q0 := z10) rfl (zt_a5 hz10), fun U hU hW => ⟨rfl, zt_go hE hP hS zt_id2 hU hW⟩⟩ rfl rfl hl.1 rfl (lv_room (Nat.le_of_ble_eq_true rfl)) dX8_setKey_41 ⟨Nat.le_of_ble_eq_true rfl, Nat.le_of_ble_eq_true rfl⟩) hS (fun _ _ h => Or.inl h) (fun _ h => Or.inl h) (fun r u t H locs ht hvm hw hB _ _ hS => ?_)
        rw [hw.1]; have hB : zt_B G u t := hB; rw [hw.2] at hB; have hP := zt_B.P hB ht
        refine W.cs (cells' := 1) (slots' := 6) rfl rfl ?_
        refine vx_ret ?_; refine W.widen (k := 2) (n := 12) (Nat.le_of_ble_eq_true rfl) (Nat.le_of_ble_eq_true rfl) ?_
        exact W.iret hx hb hr (fun t ht hW => ⟨⟨_, _, rfl, (zt_in3 hf), zt_go hE hP hS zt_id2 ht hW⟩, hS.F ht⟩) hS.2.2 dX8_setKey_44
      · have hf := (if_pos c7).symm.trans hf
        exact B21 σ2 _ _ _ hf hP hS (lv_sub hl [] rfl)

theorem zh_X8_setWindow : yX8_setWindow.cls = RX8 ∧ yX8_setWindow.cls ≠ "java/lang/invoke/MethodHandle" ∧ yX8_setWindow.cls ≠ "java/lang/invoke/VarHandle" ∧ (parseMethodDescriptor yX8_setWindow.desc).map (fun d => d.parameters.length) = some 3 := by decide +kernel
set_option maxHeartbeats 4000000 in
set_option maxRecDepth 100000 in
theorem m_X8_setWindow (l : Launch) (hl2 : l.stackTraces = false) (G : zt_G) {σ : zt_St} {x1 : Int32} {x2 : Int32} {x3 : Int32} {c9 r : Int32} {σ1 : zt_St} {sz : Nat} (hf : f_X8_setWindow σ x1 x2 x3 = some (c9, r, σ1)) : zt_MXv l G yX8_setWindow wsX8_setWindow 7 103 2 12 [.ref (zt_ad G 0), .int x1, .int x2, .int x3] sz σ c9 r σ1 := by
  refine vx_ofW (cc := cX8_setWindow) (maxL := 5) (ret := none) (by decide) rfl ?_
  intro p e s m args below meth c s₁ B hml hnt hv
  obtain ⟨rfl, rfl, hBB, hX⟩ := hv
  have hE := zt_B.env hBB; have hK := hE.2.1; have hP := hBB.2.1
  have hx := B.exec; have hb := B.bytes; have hr := B.returns; have hts := atoms_spec (ws := wsX8_setWindow) B.pre
  have hown : s.vm.findClass RX8 = some m.cls := findClass_of_methodNamed B.named
  have hlocks := B.notSynchronized
  have hS : va_S (zt_A2 G s.heap.size) s.heap s.heap [] := va_S.rf
  have hl := lv_entry ([.ref (zt_ad G 0), .int x1, .int x2, .int x3]) (n := 5) (Nat.le_of_ble_eq_true rfl)
  rw [lg_entry_eq]
  generalize (lg_sl ([.ref (zt_ad G 0), .int x1, .int x2, .int x3]) ++ List.replicate (5 - (lg_sl ([.ref (zt_ad G 0), .int x1, .int x2, .int x3])).length) Slot.unset).toArray = ls at hl ⊢
  have hl : lv_has ls 5 [(0, .ref (zt_ad G 0)), (1, .int x1), (2, .int x2), (3, .int x3)] := hl
  show W p l e (zt_RX 7 103 2 12) s m ([.ref (zt_ad G 0), .int x1, .int x2, .int x3] : List Value).toArray below meth c s.heap [] 0 0 (vx_MQ below (zt_Yv G c9 r σ1 s.heap.size) (zt_XC G c9 σ1 s.heap.size) ([.ref (zt_ad G 0), .int x1, .int x2, .int x3] : List Value).toArray s 2 12 (zt_A2 G s.heap.size)) (F0 m 0 ls [])
  have fl10 := hts (.fieldLink RX8 10 "ZoneTree" "zones" "LZoneTree$Zones;") (List.mem_cons_of_mem _ (List.mem_append_left _ (List.mem_append_left _ (List.mem_append_left _ (List.mem_append_left _ (List.mem_append_left _ (List.mem_of_getElem? (i := 2) rfl)))))))
  have fl195 := zt_Nw.use (args := ([.ref (zt_ad G 0), .int x1, .int x2, .int x3] : List Value).toArray) hE.2.2.1 (q := ("ZoneTree", 195, "ZoneTree$Zone", "windowFrom", "I", "ZoneTree")) (List.mem_of_getElem? (i := 6) rfl)
  have fl198 := zt_Nw.use (args := ([.ref (zt_ad G 0), .int x1, .int x2, .int x3] : List Value).toArray) hE.2.2.1 (q := ("ZoneTree", 198, "ZoneTree$Zone", "windowTo", "I", "ZoneTree")) (List.mem_of_getElem? (i := 7) rfl)
  have inX6 : ∀ w ∈ wsX60, w ∈ wsX8_setWindow := fun w h => (List.mem_cons_of_mem _ (List.mem_append_left _ (List.mem_append_left _ (List.mem_append_left _ (List.mem_append_right _ h)))))
  have inX8 : ∀ w ∈ wsX80, w ∈ wsX8_setWindow := fun w h => (List.mem_cons_of_mem _ (List.mem_append_left _ (List.mem_append_left _ (List.mem_append_left _ (List.mem_append_left _ (List.mem_append_right _ h))))))
  have B21 : ∀ (σ : zt_St) (H : Heap) (locs : List Loc) (ls : Array Slot), f_X8_setWindow_21 σ = some (c9, r, σ1) → va_P (zt_D G) vwCl (zt_ww G σ) H → va_S (zt_A2 G s.heap.size) s.heap H locs → lv_has ls 5 [] → W p l e (zt_RX 7 103 2 12) s m ([.ref (zt_ad G 0), .int x1, .int x2, .int x3] : List Value).toArray below meth c H locs 1 6 (vx_MQ below (zt_Yv G c9 r σ1 s.heap.size) (zt_XC G c9 σ1 s.heap.size) ([.ref (zt_ad G 0), .int x1, .int x2, .int x3] : List Value).toArray s 2 12 (zt_A2 G s.heap.size)) (F0 m 21 ls []) := by
    intro σ H locs ls hf hP hS hl
    unfold f_X8_setWindow_21 at hf
    obtain ⟨sa, hsa⟩ := hX.2.2.1 _ (List.mem_of_getElem? (l := zt_xs) (i := 9) rfl)
    exact vx_throwS (cls := "java/lang/IllegalArgumentException") (text := "the window is out of range") (names := ["java/lang/RuntimeException", "java/lang/Exception"]) (sa := sa) (A := zt_A2 G s.heap.size) hx hb hl2 hown (by decide +kernel) (by decide +kernel) (hts (.classLink RX8 51 "java/lang/IllegalArgumentException") (List.mem_cons_of_mem _ (List.mem_append_left _ (List.mem_append_left _ (List.mem_append_left _ (List.mem_append_left _ (List.mem_append_left _ (List.mem_of_getElem? (i := 0) rfl)))))))) (hts (.initialized "java/lang/IllegalArgumentException") (List.mem_cons_of_mem _ (List.mem_append_left _ (List.mem_append_left _ (List.mem_append_left _ (List.mem_append_left _ (List.mem_append_left _ (List.mem_of_getElem? (i := 1) rfl)))))))) hsa (zt_at1 hX (fun w h => hts w (List.mem_cons_of_mem _ (List.mem_append_left _ (List.mem_append_right _ h))))) zt_gd1 (zt_Zqw hX.1 zt_A2n) (zt_Zqw hX.2.1 zt_A2n) hS (hl.1.trans hml.symm) dX8_setWindow_21 dX8_setWindow_24 dX8_setWindow_25 dX8_setWindow_27 dX8_setWindow_30 (fun x hxx => (hnt x hxx).elim) (Nat.le_of_ble_eq_true rfl) (Nat.le_of_ble_eq_true rfl) (Nat.le_of_ble_eq_true rfl) (Nat.le_of_ble_eq_true rfl) hlocks (fun t hvm9 h1 h2 => by rw [← (zt_in3x hf).1, ← (zt_in3x hf).2]; exact zt_thrown hP hS h1 h2 (by exact Or.inl ⟨rfl, rfl⟩)) hS.2.2 (Nat.le_of_ble_eq_true rfl) (Nat.le_of_ble_eq_true rfl)
  unfold f_X8_setWindow at hf
  refine lv_aload_n hx hb dX8_setWindow_0 rfl (lv_at hl 0 rfl) ?_
  refine lv_iload_n hx hb dX8_setWindow_1 rfl (lv_at hl 1 rfl) ?_
  obtain ⟨e1, v1, σ2, hvv1, hzv1⟩ := zt_bx_some hf
  refine vx_callv (vx_runV (As := [.int x1]) (rest := []) ⟨hx, hb, hml, hown, hts⟩ (m_X8_checkZone l hl2 G (σ := σ) hvv1) (cwV 1 hts gX8_setWindow_X8_checkZone rfl rfl rfl zh_X8_checkZone ⟨Nat.le_of_ble_eq_true rfl, Nat.le_of_ble_eq_true rfl⟩) ⟨zt_blind2, va_recv hK hP (ci := 7) (q0 := 0) rfl (zt_a7 (rfl : zt_kd 0 = 7)), fun U hU hW => ⟨rfl, zt_go2 hE hX hP hS hU hW⟩⟩ rfl rfl hl.1 rfl (lv_room (Nat.le_of_ble_eq_true rfl)) dX8_setWindow_2 ⟨Nat.le_of_ble_eq_true rfl, Nat.le_of_ble_eq_true rfl⟩) hS (zt_dn hS) (zt_up hS) (zt_dn hS) (fun E ce q9 u t H locs ht hvm hw hB _ _ hS hce hcv hcl => ?_) (fun u t H locs ht hvm hw hB _ _ hS => ?_)
  · rcases hzv1 with ⟨h0, -⟩ | ⟨-, hf⟩
    · exact absurd h0 (zt_exc_ne hB.1)
    · refine vx_out (fun x hxx => (hnt x hxx).elim) hlocks hce hcv hcl (fun t2 ht2 hvm2 => ?_) hS.2.2 (Nat.le_of_ble_eq_true rfl) (Nat.le_of_ble_eq_true rfl)
      have hB2 := hB.2; rw [hw, ht] at hB2; rw [← (zt_in3x hf).1, ← (zt_in3x hf).2]; exact zt_passed hB2 hS ht2 hB.1
  rcases hzv1 with ⟨-, hf⟩ | ⟨h0, -⟩
  rotate_left
  · exact absurd hw.1 h0
  have hB : zt_B G u t := hB; rw [hw.2.2] at hB; have hP := zt_B.P hB ht
  refine W.cs (cells' := 1) (slots' := 6) rfl rfl ?_
  refine lv_iload_n hx hb dX8_setWindow_5 rfl (lv_at hl 2 rfl) ?_
  refine lv_if_lt (tgt := 21) hx hb dX8_setWindow_6 (by decide) (fun c3 => ?_) (fun c3 => ?_)
  · have hf := (if_pos c3).symm.trans hf
    exact B21 σ2 _ _ _ hf hP hS (lv_sub hl [] rfl)
  · have hf := (if_neg c3).symm.trans hf
    refine lv_iload_n hx hb dX8_setWindow_9 rfl (lv_at hl 3 rfl) ?_
    refine lv_iload_n hx hb dX8_setWindow_10 rfl (lv_at hl 2 rfl) ?_
    refine lv_icmp_lt (tgt := 21) hx hb dX8_setWindow_11 (by decide) (fun c4 => ?_) (fun c4 => ?_)
    · have hf := (if_pos c4).symm.trans hf
      exact B21 σ2 _ _ _ hf hP hS (lv_sub hl [] rfl)
    · have hf := (if_neg c4).symm.trans hf
      refine lv_iload_n hx hb dX8_setWindow_14 rfl (lv_at hl 3 rfl) ?_
      refine lv_sipush (v := 10000) hx hb dX8_setWindow_15 (by decide +kernel) ?_
      refine lv_icmp_le (tgt := 31) hx hb dX8_setWindow_18 (by decide) (fun c5 => ?_) (fun c5 => ?_)
      · have hf := (if_pos c5).symm.trans hf
        refine lv_aload_n hx hb dX8_setWindow_31 rfl (lv_at hl 0 rfl) ?_
        refine va_get (D := zt_D G) (ci := 7) (v := .ref (zt_ad G 1)) (C := RX8) (T := TX8) (N := 5) hx hb hts inX8 hown hK hP 0 (zt_a7 (rfl : zt_kd 0 = 7)) rfl 0 (by decide) fl10 (fun _ h9 => h9) rfl dX8_setWindow_32 ?_
        refine lv_iload_n hx hb dX8_setWindow_35 rfl (lv_at hl 1 rfl) ?_
        obtain ⟨z8, hvv6, hf⟩ := zt_bd_some hf; obtain ⟨g9, hf⟩ := zt_gd_some hf; have hz8 := of_decide_eq_true g9
        refine va_callr (va_runV (As := [.int x1]) (rest := []) ⟨hx, hb, hml, hown, hts⟩ (m_X7_at l G (σ := σ2) hvv6) (cwV 1 hts gX8_setWindow_X7_at rfl rfl rfl zh_X7_at ⟨Nat.le_of_ble_eq_true rfl, Nat.le_of_ble_eq_true rfl⟩) ⟨zt_blind, va_recv hK hP (ci := 6) (q0 := 1) rfl (zt_a6 (rfl : zt_kd 1 = 6)), fun U hU hW => ⟨rfl, zt_go hE hP hS zt_id2 hU hW⟩⟩ rfl rfl hl.1 rfl (lv_room (Nat.le_of_ble_eq_true rfl)) dX8_setWindow_36 ⟨Nat.le_of_ble_eq_true rfl, Nat.le_of_ble_eq_true rfl⟩) hS (fun _ _ h => Or.inl h) (fun _ h => Or.inl h) (fun u a t H locs ht hvm hw hB _ _ hS => ?_)
        rw [hB.1]; have hB : zt_B G u t := hB.2; rw [hw] at hB; have hP := zt_B.P hB ht
        refine W.cs (cells' := 1) (slots' := 6) rfl rfl ?_
        refine lv_astore (lv' := [(4, .ref (zt_ad G z8)), (0, .ref (zt_ad G 0)), (1, .int x1), (2, .int x2), (3, .int x3)]) hx hb dX8_setWindow_39 hl (by decide) rfl (fun ls hl => ?_)
        refine lv_aload hx hb dX8_setWindow_41 (lv_at hl 0 rfl) ?_
        refine lv_iload_n hx hb dX8_setWindow_43 rfl (lv_at hl 3 rfl) ?_
        obtain ⟨σ10, hσ10, hf⟩ := zt_lt_some hf
        refine va_putN (D := zt_D G) (ci := 5) (v := .int x2) (ty := .int) (C := RX6) (T := TX6) (N := 11) hx hb hts inX6 tyX6 tyX6_ok nmX6 hown hK hP (zt_apart2 hE.1) hS z8 (zt_a5 hz8) rfl 7 (by decide) fl195 (fun _ h9 => h9) rfl (tyX6_ok 7 (by decide)) rfl rfl (Nat.le_of_ble_eq_true rfl) dX8_setWindow_44 (fun H locs hP _ hS => ?_)
        rw [zt_p5_7 hz8, ← hσ10] at hP
        refine lv_aload hx hb dX8_setWindow_47 (lv_at hl 0 rfl) ?_
        refine lv_iload_n hx hb dX8_setWindow_49 rfl (lv_at hl 4 rfl) ?_
        obtain ⟨σ11, hσ11, hf⟩ := zt_lt_some hf
        refine va_putN (D := zt_D G) (ci := 5) (v := .int x3) (ty := .int) (C := RX6) (T := TX6) (N := 11) hx hb hts inX6 tyX6 tyX6_ok nmX6 hown hK hP (zt_apart2 hE.1) hS z8 (zt_a5 hz8) rfl 8 (by decide) fl198 (fun _ h9 => h9) rfl (tyX6_ok 8 (by decide)) rfl rfl (Nat.le_of_ble_eq_true rfl) dX8_setWindow_50 (fun H locs hP _ hS => ?_)
        rw [zt_p5_8 hz8, ← hσ11] at hP
        refine vx_ret ?_; refine W.widen (k := 2) (n := 12) (Nat.le_of_ble_eq_true rfl) (Nat.le_of_ble_eq_true rfl) ?_
        exact W.vret hx hb hr (fun t ht hW => ⟨⟨_, rfl, zt_in3 hf, zt_go hE hP hS zt_id2 ht hW⟩, hS.F ht⟩) hS.2.2 dX8_setWindow_53
      · have hf := (if_neg c5).symm.trans hf
        exact B21 σ2 _ _ _ hf hP hS (lv_sub hl [] rfl)

theorem zh_X8_setAnchor : yX8_setAnchor.cls = RX8 ∧ yX8_setAnchor.cls ≠ "java/lang/invoke/MethodHandle" ∧ yX8_setAnchor.cls ≠ "java/lang/invoke/VarHandle" ∧ (parseMethodDescriptor yX8_setAnchor.desc).map (fun d => d.parameters.length) = some 1 := by decide +kernel
set_option maxHeartbeats 4000000 in
set_option maxRecDepth 100000 in
theorem m_X8_setAnchor (l : Launch) (hl2 : l.stackTraces = false) (G : zt_G) {σ : zt_St} {x1 : Int32} {c9 r : Int32} {σ1 : zt_St} {sz : Nat} (hf : f_X8_setAnchor σ x1 = some (c9, r, σ1)) : zt_MXi l G yX8_setAnchor wsX8_setAnchor 6 82 1 6 [.ref (zt_ad G 0), .int x1] sz σ c9 r σ1 := by
  refine vx_ofW (cc := cX8_setAnchor) (maxL := 3) (ret := (some .int)) (by decide) rfl ?_
  intro p e s m args below meth c s₁ B hml hnt hv
  obtain ⟨rfl, rfl, hBB, hX⟩ := hv
  have hE := zt_B.env hBB; have hK := hE.2.1; have hP := hBB.2.1
  have hx := B.exec; have hb := B.bytes; have hr := B.returns; have hts := atoms_spec (ws := wsX8_setAnchor) B.pre
  have hown : s.vm.findClass RX8 = some m.cls := findClass_of_methodNamed B.named
  have hlocks := B.notSynchronized
  have hS : va_S (zt_A2 G s.heap.size) s.heap s.heap [] := va_S.rf
  have hl := lv_entry ([.ref (zt_ad G 0), .int x1]) (n := 3) (Nat.le_of_ble_eq_true rfl)
  rw [lg_entry_eq]
  generalize (lg_sl ([.ref (zt_ad G 0), .int x1]) ++ List.replicate (3 - (lg_sl ([.ref (zt_ad G 0), .int x1])).length) Slot.unset).toArray = ls at hl ⊢
  have hl : lv_has ls 3 [(0, .ref (zt_ad G 0)), (1, .int x1)] := hl
  show W p l e (zt_RX 6 82 1 6) s m ([.ref (zt_ad G 0), .int x1] : List Value).toArray below meth c s.heap [] 0 0 (vx_MQ below (zt_Yi G c9 r σ1 s.heap.size) (zt_XC G c9 σ1 s.heap.size) ([.ref (zt_ad G 0), .int x1] : List Value).toArray s 1 6 (zt_A2 G s.heap.size)) (F0 m 0 ls [])
  have fl28 := hts (.fieldLink RX8 28 "ZoneTree" "resolver" "LZoneTree$Resolver;") (List.mem_cons_of_mem _ (List.mem_append_left _ (List.mem_append_left _ (List.mem_append_left _ (List.mem_of_getElem? (i := 2) rfl)))))
  have fl203 := zt_Nw.use (args := ([.ref (zt_ad G 0), .int x1] : List Value).toArray) hE.2.2.1 (q := ("ZoneTree", 203, "ZoneTree$Resolver", "anchor", "I", "ZoneTree")) (List.mem_of_getElem? (i := 32) rfl)
  have inX5 : ∀ w ∈ wsX50, w ∈ wsX8_setAnchor := fun w h => (List.mem_cons_of_mem _ (List.mem_append_left _ (List.mem_append_right _ h)))
  have inX8 : ∀ w ∈ wsX80, w ∈ wsX8_setAnchor := fun w h => (List.mem_cons_of_mem _ (List.mem_append_left _ (List.mem_append_left _ (List.mem_append_right _ h))))
  unfold f_X8_setAnchor at hf
  refine lv_iload_n hx hb dX8_setAnchor_0 rfl (lv_at hl 1 rfl) ?_
  obtain ⟨v1, hvv1, hf⟩ := zt_bd_some hf
  refine va_calli (va_runS (As := [.int x1]) (rest := []) ⟨hx, hb, hml, hown, hts⟩ (m_X8_isKeyOrNone l G (σ := σ) hvv1) (va_cwS 1 hts gX8_setAnchor_X8_isKeyOrNone rfl rfl rfl zh_X8_isKeyOrNone ⟨Nat.le_of_ble_eq_true rfl, Nat.le_of_ble_eq_true rfl⟩) ⟨zt_blind, fun U hU hW => ⟨rfl, zt_go hE hP hS zt_id2 hU hW⟩⟩ rfl rfl hl.1 rfl (lv_room (Nat.le_of_ble_eq_true rfl)) dX8_setAnchor_1 ⟨Nat.le_of_ble_eq_true rfl, Nat.le_of_ble_eq_true rfl⟩) hS (fun _ _ h => Or.inl h) (fun _ h => Or.inl h) (fun r u t H locs ht hvm hw hB _ _ hS => ?_)
  rw [hw.1]; have hB : zt_B G u t := hB; rw [hw.2] at hB; have hP := zt_B.P hB ht
  refine W.cs (cells' := 0) (slots' := 0) rfl rfl ?_
  refine lv_if_ne (tgt := 17) hx hb dX8_setAnchor_4 (by decide) (fun c3 => ?_) (fun c3 => ?_)
  · have hf := (if_neg c3).symm.trans hf
    refine lv_aload_n hx hb dX8_setAnchor_17 rfl (lv_at hl 0 rfl) ?_
    refine va_get (D := zt_D G) (ci := 7) (v := .ref (zt_ad G 80)) (C := RX8) (T := TX8) (N := 5) hx hb hts inX8 hown hK hP 0 (zt_a7 (rfl : zt_kd 0 = 7)) rfl 2 (by decide) fl28 (fun _ h9 => h9) rfl dX8_setAnchor_18 ?_
    refine va_getN (D := zt_D G) (ci := 4) (v := .int (σ 80 4)) (C := RX5) (T := TX5) (N := 15) hx hb hts inX5 hown hK hP 80 (zt_a4 (rfl : zt_kd 80 = 4)) rfl 4 (by decide) fl203 (fun _ h9 => h9) rfl dX8_setAnchor_21 ?_
    refine lv_istore_n (lv' := [(2, .int (σ 80 4)), (0, .ref (zt_ad G 0)), (1, .int x1)]) hx hb dX8_setAnchor_24 rfl hl (by decide) rfl (fun ls hl => ?_)
    refine lv_aload_n hx hb dX8_setAnchor_25 rfl (lv_at hl 1 rfl) ?_
    refine va_get (D := zt_D G) (ci := 7) (v := .ref (zt_ad G 80)) (C := RX8) (T := TX8) (N := 5) hx hb hts inX8 hown hK hP 0 (zt_a7 (rfl : zt_kd 0 = 7)) rfl 2 (by decide) fl28 (fun _ h9 => h9) rfl dX8_setAnchor_26 ?_
    refine lv_iload_n hx hb dX8_setAnchor_29 rfl (lv_at hl 2 rfl) ?_
    obtain ⟨σ4, hσ4, hf⟩ := zt_lt_some hf
    refine va_putN (D := zt_D G) (ci := 4) (v := .int x1) (ty := .int) (C := RX5) (T := TX5) (N := 15) hx hb hts inX5 tyX5 tyX5_ok nmX5 hown hK hP (zt_apart2 hE.1) hS 80 (zt_a4 (rfl : zt_kd 80 = 4)) rfl 4 (by decide) fl203 (fun _ h9 => h9) rfl (tyX5_ok 4 (by decide)) rfl rfl (Nat.le_of_ble_eq_true rfl) dX8_setAnchor_30 (fun H locs hP _ hS => ?_)
    rw [zt_p4_4 (rfl : zt_kd 80 = 4), ← hσ4] at hP
    refine lv_iload_n hx hb dX8_setAnchor_33 rfl (lv_at hl 0 rfl) ?_
    refine vx_ret ?_; refine W.widen (k := 1) (n := 6) (Nat.le_of_ble_eq_true rfl) (Nat.le_of_ble_eq_true rfl) ?_
    exact W.iret hx hb hr (fun t ht hW => ⟨⟨_, _, rfl, (zt_in3 hf), zt_go hE hP hS zt_id2 ht hW⟩, hS.F ht⟩) hS.2.2 dX8_setAnchor_34
  · have hf := (if_pos c3).symm.trans hf
    obtain ⟨sa, hsa⟩ := hX.2.2.1 _ (List.mem_of_getElem? (l := zt_xs) (i := 10) rfl)
    exact vx_throwS (cls := "java/lang/IllegalArgumentException") (text := "the key is out of range") (names := ["java/lang/RuntimeException", "java/lang/Exception"]) (sa := sa) (A := zt_A2 G s.heap.size) hx hb hl2 hown (by decide +kernel) (by decide +kernel) (hts (.classLink RX8 51 "java/lang/IllegalArgumentException") (List.mem_cons_of_mem _ (List.mem_append_left _ (List.mem_append_left _ (List.mem_append_left _ (List.mem_of_getElem? (i := 0) rfl)))))) (hts (.initialized "java/lang/IllegalArgumentException") (List.mem_cons_of_mem _ (List.mem_append_left _ (List.mem_append_left _ (List.mem_append_left _ (List.mem_of_getElem? (i := 1) rfl)))))) hsa (zt_at1 hX (fun w h => hts w (List.mem_cons_of_mem _ (List.mem_append_right _ h)))) zt_gd1 (zt_Zqw hX.1 zt_A2n) (zt_Zqw hX.2.1 zt_A2n) hS (hl.1.trans hml.symm) dX8_setAnchor_7 dX8_setAnchor_10 dX8_setAnchor_11 dX8_setAnchor_13 dX8_setAnchor_16 (fun x hxx => (hnt x hxx).elim) (Nat.le_of_ble_eq_true rfl) (Nat.le_of_ble_eq_true rfl) (Nat.le_of_ble_eq_true rfl) (Nat.le_of_ble_eq_true rfl) hlocks (fun t hvm9 h1 h2 => by rw [← (zt_in3x hf).1, ← (zt_in3x hf).2]; exact zt_thrown hP hS h1 h2 (by exact Or.inl ⟨rfl, rfl⟩)) hS.2.2 (Nat.le_of_ble_eq_true rfl) (Nat.le_of_ble_eq_true rfl)

theorem zh_X8_trust : yX8_trust.cls = RX8 ∧ yX8_trust.cls ≠ "java/lang/invoke/MethodHandle" ∧ yX8_trust.cls ≠ "java/lang/invoke/VarHandle" ∧ (parseMethodDescriptor yX8_trust.desc).map (fun d => d.parameters.length) = some 2 := by decide +kernel
set_option maxHeartbeats 4000000 in
set_option maxRecDepth 100000 in
theorem m_X8_trust (l : Launch) (hl2 : l.stackTraces = false) (G : zt_G) {σ : zt_St} {x1 : Int32} {x2 : Int32} {c9 r : Int32} {σ1 : zt_St} {sz : Nat} (hf : f_X8_trust σ x1 x2 = some (c9, r, σ1)) : zt_MXi l G yX8_trust wsX8_trust 7 171 1 6 [.ref (zt_ad G 0), .int x1, .int x2] sz σ c9 r σ1 := by
  refine vx_ofW (cc := cX8_trust) (maxL := 3) (ret := (some .int)) (by decide) rfl ?_
  intro p e s m args below meth c s₁ B hml hnt hv
  obtain ⟨rfl, rfl, hBB, hX⟩ := hv
  have hE := zt_B.env hBB; have hK := hE.2.1; have hP := hBB.2.1
  have hx := B.exec; have hb := B.bytes; have hr := B.returns; have hts := atoms_spec (ws := wsX8_trust) B.pre
  have hown : s.vm.findClass RX8 = some m.cls := findClass_of_methodNamed B.named
  have hlocks := B.notSynchronized
  have hS : va_S (zt_A2 G s.heap.size) s.heap s.heap [] := va_S.rf
  have hl := lv_entry ([.ref (zt_ad G 0), .int x1, .int x2]) (n := 3) (Nat.le_of_ble_eq_true rfl)
  rw [lg_entry_eq]
  generalize (lg_sl ([.ref (zt_ad G 0), .int x1, .int x2]) ++ List.replicate (3 - (lg_sl ([.ref (zt_ad G 0), .int x1, .int x2])).length) Slot.unset).toArray = ls at hl ⊢
  have hl : lv_has ls 3 [(0, .ref (zt_ad G 0)), (1, .int x1), (2, .int x2)] := hl
  show W p l e (zt_RX 7 171 1 6) s m ([.ref (zt_ad G 0), .int x1, .int x2] : List Value).toArray below meth c s.heap [] 0 0 (vx_MQ below (zt_Yi G c9 r σ1 s.heap.size) (zt_XC G c9 σ1 s.heap.size) ([.ref (zt_ad G 0), .int x1, .int x2] : List Value).toArray s 1 6 (zt_A2 G s.heap.size)) (F0 m 0 ls [])
  have fl28 := hts (.fieldLink RX8 28 "ZoneTree" "resolver" "LZoneTree$Resolver;") (List.mem_cons_of_mem _ (List.mem_append_left _ (List.mem_append_left _ (List.mem_append_left _ (List.mem_append_left _ (List.mem_append_left _ (List.mem_append_left _ (List.mem_append_left _ (List.mem_append_left _ (List.mem_append_left _ (List.mem_of_getElem? (i := 0) rfl)))))))))))
  have fl39 := hts (.fieldLink RX8 39 "ZoneTree" "unseen" "LZoneTree$Answer;") (List.mem_cons_of_mem _ (List.mem_append_left _ (List.mem_append_left _ (List.mem_append_left _ (List.mem_append_left _ (List.mem_append_left _ (List.mem_append_left _ (List.mem_append_left _ (List.mem_append_left _ (List.mem_append_left _ (List.mem_of_getElem? (i := 1) rfl)))))))))))
  have fl152 := zt_Nw.use (args := ([.ref (zt_ad G 0), .int x1, .int x2] : List Value).toArray) hE.2.2.1 (q := ("ZoneTree", 152, "ZoneTree$Answer", "kind", "I", "ZoneTree")) (List.mem_of_getElem? (i := 15) rfl)
  have fl206 := zt_Nw.use (args := ([.ref (zt_ad G 0), .int x1, .int x2] : List Value).toArray) hE.2.2.1 (q := ("ZoneTree", 206, "ZoneTree$Resolver", "worstTrust", "I", "ZoneTree")) (List.mem_of_getElem? (i := 33) rfl)
  have inX0 : ∀ w ∈ wsX00, w ∈ wsX8_trust := fun w h => (List.mem_cons_of_mem _ (List.mem_append_left _ (List.mem_append_left _ (List.mem_append_left _ (List.mem_append_left _ (List.mem_append_left _ (List.mem_append_left _ (List.mem_append_right _ h))))))))
  have inX5 : ∀ w ∈ wsX50, w ∈ wsX8_trust := fun w h => (List.mem_cons_of_mem _ (List.mem_append_left _ (List.mem_append_left _ (List.mem_append_left _ (List.mem_append_left _ (List.mem_append_left _ (List.mem_append_right _ h)))))))
  have inX8 : ∀ w ∈ wsX80, w ∈ wsX8_trust := fun w h => (List.mem_cons_of_mem _ (List.mem_append_left _ (List.mem_append_left _ (List.mem_append_left _ (List.mem_append_left _ (List.mem_append_left _ (List.mem_append_left _ (List.mem_append_left _ (List.mem_append_right _ h)))))))))
  unfold f_X8_trust at hf
  refine lv_iload_n hx hb dX8_trust_0 rfl (lv_at hl 1 rfl) ?_
  refine lv_iload_n hx hb dX8_trust_1 rfl (lv_at hl 2 rfl) ?_
  obtain ⟨e1, v1, σ2, hvv1, hzv1⟩ := zt_bx_some hf
  refine vx_callv (vx_runS (As := [.int x1, .int x2]) (rest := []) ⟨hx, hb, hml, hown, hts⟩ (m_X8_checkNameAndSort l hl2 G (σ := σ) hvv1) (va_cwS 2 hts gX8_trust_X8_checkNameAndSort rfl rfl rfl zh_X8_checkNameAndSort ⟨Nat.le_of_ble_eq_true rfl, Nat.le_of_ble_eq_true rfl⟩) ⟨zt_blind2, fun U hU hW => ⟨rfl, zt_go2 hE hX hP hS hU hW⟩⟩ rfl rfl hl.1 rfl (lv_room (Nat.le_of_ble_eq_true rfl)) dX8_trust_2 ⟨Nat.le_of_ble_eq_true rfl, Nat.le_of_ble_eq_true rfl⟩) hS (zt_dn hS) (zt_up hS) (zt_dn hS) (fun E ce q9 u t H locs ht hvm hw hB _ _ hS hce hcv hcl => ?_) (fun u t H locs ht hvm hw hB _ _ hS => ?_)
  · rcases hzv1 with ⟨h0, -⟩ | ⟨-, hf⟩
    · exact absurd h0 (zt_exc_ne hB.1)
    · refine vx_out (fun x hxx => (hnt x hxx).elim) hlocks hce hcv hcl (fun t2 ht2 hvm2 => ?_) hS.2.2 (Nat.le_of_ble_eq_true rfl) (Nat.le_of_ble_eq_true rfl)
      have hB2 := hB.2; rw [hw, ht] at hB2; rw [← (zt_in3x hf).1, ← (zt_in3x hf).2]; exact zt_passed hB2 hS ht2 hB.1
  rcases hzv1 with ⟨-, hf⟩ | ⟨h0, -⟩
  rotate_left
  · exact absurd hw.1 h0
  have hB : zt_B G u t := hB; rw [hw.2.2] at hB; have hP := zt_B.P hB ht
  refine W.cs (cells' := 1) (slots' := 6) rfl rfl ?_
  refine lv_aload_n hx hb dX8_trust_5 rfl (lv_at hl 0 rfl) ?_
  refine va_get (D := zt_D G) (ci := 7) (v := .ref (zt_ad G 80)) (C := RX8) (T := TX8) (N := 5) hx hb hts inX8 hown hK hP 0 (zt_a7 (rfl : zt_kd 0 = 7)) rfl 2 (by decide) fl28 (fun _ h9 => h9) rfl dX8_trust_6 ?_
  refine lv_iload_n hx hb dX8_trust_9 rfl (lv_at hl 1 rfl) ?_
  refine lv_iload_n hx hb dX8_trust_10 rfl (lv_at hl 2 rfl) ?_
  refine lv_iconst (v := 1) hx hb dX8_trust_11 (by decide) ?_
  refine lv_aload_n hx hb dX8_trust_12 rfl (lv_at hl 0 rfl) ?_
  refine va_get (D := zt_D G) (ci := 7) (v := .ref (zt_ad G 93)) (C := RX8) (T := TX8) (N := 5) hx hb hts inX8 hown hK hP 0 (zt_a7 (rfl : zt_kd 0 = 7)) rfl 4 (by decide) fl39 (fun _ h9 => h9) rfl dX8_trust_13 ?_
  obtain ⟨σ4, hvv3, hf⟩ := zt_bd_some hf
  refine va_callv (va_runV (As := [.int x1, .int x2, .int 1, .ref (zt_ad G 93)]) (rest := []) ⟨hx, hb, hml, hown, hts⟩ (m_X5_run l G (rfl : zt_kd 93 = 0) (σ := σ2) hvv3) (cwV 4 hts gX8_trust_X5_run rfl rfl rfl zh_X5_run ⟨Nat.le_of_ble_eq_true rfl, Nat.le_of_ble_eq_true rfl⟩) ⟨zt_blind, va_recv hK hP (ci := 4) (q0 := 80) rfl (zt_a4 (rfl : zt_kd 80 = 4)), fun U hU hW => ⟨rfl, zt_go hE hP hS zt_id2 hU hW⟩⟩ rfl rfl hl.1 rfl (lv_room (Nat.le_of_ble_eq_true rfl)) dX8_trust_16 ⟨Nat.le_of_ble_eq_true rfl, Nat.le_of_ble_eq_true rfl⟩) hS (fun _ _ h => Or.inl h) (fun _ h => Or.inl h) (fun u t H locs ht hvm hw hB _ _ hS => ?_)
  have hB : zt_B G u t := hB; rw [hw] at hB; have hP := zt_B.P hB ht
  refine W.cs (cells' := 1) (slots' := 6) rfl rfl ?_
  refine lv_aload_n hx hb dX8_trust_19 rfl (lv_at hl 0 rfl) ?_
  refine va_get (D := zt_D G) (ci := 7) (v := .ref (zt_ad G 93)) (C := RX8) (T := TX8) (N := 5) hx hb hts inX8 hown hK hP 0 (zt_a7 (rfl : zt_kd 0 = 7)) rfl 4 (by decide) fl39 (fun _ h9 => h9) rfl dX8_trust_20 ?_
  refine va_getN (D := zt_D G) (ci := 0) (v := .int (σ4 93 0)) (C := RX0) (T := TX0) (N := 8) hx hb hts inX0 hown hK hP 93 (zt_a0 (rfl : zt_kd 93 = 0)) rfl 0 (by decide) fl152 (fun _ h9 => h9) rfl dX8_trust_23 ?_
  refine lv_bipush (v := 6) hx hb dX8_trust_26 (by decide +kernel) ?_
  refine lv_icmp_ne (tgt := 35) hx hb dX8_trust_28 (by decide) (fun c5 => ?_) (fun c5 => ?_)
  · have hf := (if_neg c5).symm.trans hf
    refine lv_aload_n hx hb dX8_trust_35 rfl (lv_at hl 0 rfl) ?_
    refine va_get (D := zt_D G) (ci := 7) (v := .ref (zt_ad G 80)) (C := RX8) (T := TX8) (N := 5) hx hb hts inX8 hown hK hP 0 (zt_a7 (rfl : zt_kd 0 = 7)) rfl 2 (by decide) fl28 (fun _ h9 => h9) rfl dX8_trust_36 ?_
    refine va_getN (D := zt_D G) (ci := 4) (v := .int (σ4 80 14)) (C := RX5) (T := TX5) (N := 15) hx hb hts inX5 hown hK hP 80 (zt_a4 (rfl : zt_kd 80 = 4)) rfl 14 (by decide) fl206 (fun _ h9 => h9) rfl dX8_trust_39 ?_
    refine vx_ret ?_; refine W.widen (k := 1) (n := 6) (Nat.le_of_ble_eq_true rfl) (Nat.le_of_ble_eq_true rfl) ?_
    exact W.iret hx hb hr (fun t ht hW => ⟨⟨_, _, rfl, (zt_in3 hf), zt_go hE hP hS zt_id2 ht hW⟩, hS.F ht⟩) hS.2.2 dX8_trust_42
  · have hf := (if_pos c5).symm.trans hf
    refine lv_iconst (v := (-1)) hx hb dX8_trust_31 (by decide) ?_
    refine lv_goto (tgt := 42) hx hb dX8_trust_32 (by decide) ?_
    refine vx_ret ?_; refine W.widen (k := 1) (n := 6) (Nat.le_of_ble_eq_true rfl) (Nat.le_of_ble_eq_true rfl) ?_
    exact W.iret hx hb hr (fun t ht hW => ⟨⟨_, _, rfl, (zt_in3 hf), zt_go hE hP hS zt_id2 ht hW⟩, hS.F ht⟩) hS.2.2 dX8_trust_42

