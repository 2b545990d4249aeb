/-! contracts over the machine, by program: each method does what its function says -/
theorem zh_X0_tell : yX0_tell.cls = RX0 ∧ yX0_tell.cls ≠ "java/lang/invoke/MethodHandle" ∧ yX0_tell.cls ≠ "java/lang/invoke/VarHandle" ∧ (parseMethodDescriptor yX0_tell.desc).map (fun d => d.parameters.length) = some 4 := by decide +kernel
set_option maxHeartbeats 4000000 in
set_option maxRecDepth 100000 in
theorem m_X0_tell (l : Launch) (G : zt_G) {σ : zt_St} {k0 : Nat} (hk0 : zt_kd k0 = 0) {x1 : Int32} {x2 : Int32} {x3 : Int32} {x4 : Int32} {σ1 : zt_St} (hf : f_X0_tell σ k0 x1 x2 x3 x4 = some σ1) : zt_Mv l G yX0_tell wsX0_tell 0 0 [.ref (zt_ad G k0), .int x1, .int x2, .int x3, .int x4] σ σ1 := by
  refine Met.ofW (cc := cX0_tell) (maxL := 5) (ret := none) (by decide) rfl ?_
  intro p e s m args below meth c s₁ B hml hv
  obtain ⟨rfl, hBB⟩ := hv
  have hE := zt_B.env hBB; have hK := hE.2.1; have hP := hBB.2.1
  have hx := B.exec; have hb := B.bytes; have hr := B.returns; have hts := atoms_spec (ws := wsX0_tell) B.pre
  have hown : s.vm.findClass RX0 = some m.cls := findClass_of_methodNamed B.named
  have hlocks := B.notSynchronized
  have hS : va_S (zt_A G) s.heap s.heap [] := va_S.rf
  have hl := lv_entry ([.ref (zt_ad G k0), .int x1, .int x2, .int x3, .int x4]) (n := 5) (Nat.le_of_ble_eq_true rfl)
  rw [lg_entry_eq]
  generalize (lg_sl ([.ref (zt_ad G k0), .int x1, .int x2, .int x3, .int x4]) ++ List.replicate (5 - (lg_sl ([.ref (zt_ad G k0), .int x1, .int x2, .int x3, .int x4])).length) Slot.unset).toArray = ls at hl ⊢
  have hl : lv_has ls 5 [(0, .ref (zt_ad G k0)), (1, .int x1), (2, .int x2), (3, .int x3), (4, .int x4)] := hl
  show W p l e (zt_R 0 0) s m ([.ref (zt_ad G k0), .int x1, .int x2, .int x3, .int x4] : List Value).toArray below meth c s.heap [] 0 0 (MQ below (zt_Cv G σ1) ([.ref (zt_ad G k0), .int x1, .int x2, .int x3, .int x4] : List Value).toArray s 0 0 (zt_A G)) (F0 m 0 ls [])
  have fl9 := hts (.fieldLink RX0 9 "ZoneTree$Answer" "kind" "I") (List.mem_cons_of_mem _ (List.mem_append_left _ (List.mem_of_getElem? (i := 0) rfl)))
  have fl15 := hts (.fieldLink RX0 15 "ZoneTree$Answer" "number" "I") (List.mem_cons_of_mem _ (List.mem_append_left _ (List.mem_of_getElem? (i := 1) rfl)))
  have fl18 := hts (.fieldLink RX0 18 "ZoneTree$Answer" "name" "I") (List.mem_cons_of_mem _ (List.mem_append_left _ (List.mem_of_getElem? (i := 2) rfl)))
  have fl27 := hts (.fieldLink RX0 27 "ZoneTree$Answer" "life" "I") (List.mem_cons_of_mem _ (List.mem_append_left _ (List.mem_of_getElem? (i := 3) rfl)))
  have inX0 : ∀ w ∈ wsX00, w ∈ wsX0_tell := fun w h => (List.mem_cons_of_mem _ (List.mem_append_right _ h))
  unfold f_X0_tell at hf
  refine lv_aload_n hx hb dX0_tell_0 rfl (lv_at hl 0 rfl) ?_
  refine lv_iload_n hx hb dX0_tell_1 rfl (lv_at hl 1 rfl) ?_
  obtain ⟨σ1, hσ1, hf⟩ := zt_lt_some hf
  refine va_put (D := zt_D G) (ci := 0) (v := .int x1) (ty := .int) (C := RX0) (T := TX0) (N := 8) hx hb hts inX0 tyX0 tyX0_ok nmX0 hown hK hP (zt_apart hE.1) hS k0 (zt_a0 hk0) rfl 0 (by decide) fl9 (fun _ h9 => h9) rfl (tyX0_ok 0 (by decide)) rfl rfl (Nat.le_of_ble_eq_true rfl) dX0_tell_2 (fun H locs hP _ hS => ?_)
  rw [zt_p0_0 hk0, ← hσ1] at hP
  refine lv_aload_n hx hb dX0_tell_5 rfl (lv_at hl 0 rfl) ?_
  refine lv_iload_n hx hb dX0_tell_6 rfl (lv_at hl 2 rfl) ?_
  obtain ⟨σ2, hσ2, hf⟩ := zt_lt_some hf
  refine va_put (D := zt_D G) (ci := 0) (v := .int x2) (ty := .int) (C := RX0) (T := TX0) (N := 8) hx hb hts inX0 tyX0 tyX0_ok nmX0 hown hK hP (zt_apart hE.1) hS k0 (zt_a0 hk0) rfl 1 (by decide) fl15 (fun _ h9 => h9) rfl (tyX0_ok 1 (by decide)) rfl rfl (Nat.le_of_ble_eq_true rfl) dX0_tell_7 (fun H locs hP _ hS => ?_)
  rw [zt_p0_1 hk0, ← hσ2] at hP
  refine lv_aload_n hx hb dX0_tell_10 rfl (lv_at hl 0 rfl) ?_
  refine lv_iload_n hx hb dX0_tell_11 rfl (lv_at hl 3 rfl) ?_
  obtain ⟨σ3, hσ3, hf⟩ := zt_lt_some hf
  refine va_put (D := zt_D G) (ci := 0) (v := .int x3) (ty := .int) (C := RX0) (T := TX0) (N := 8) hx hb hts inX0 tyX0 tyX0_ok nmX0 hown hK hP (zt_apart hE.1) hS k0 (zt_a0 hk0) rfl 2 (by decide) fl18 (fun _ h9 => h9) rfl (tyX0_ok 2 (by decide)) rfl rfl (Nat.le_of_ble_eq_true rfl) dX0_tell_12 (fun H locs hP _ hS => ?_)
  rw [zt_p0_2 hk0, ← hσ3] at hP
  refine lv_aload_n hx hb dX0_tell_15 rfl (lv_at hl 0 rfl) ?_
  refine lv_iload hx hb dX0_tell_16 (lv_at hl 4 rfl) ?_
  obtain ⟨σ4, hσ4, hf⟩ := zt_lt_some hf
  refine va_put (D := zt_D G) (ci := 0) (v := .int x4) (ty := .int) (C := RX0) (T := TX0) (N := 8) hx hb hts inX0 tyX0 tyX0_ok nmX0 hown hK hP (zt_apart hE.1) hS k0 (zt_a0 hk0) rfl 3 (by decide) fl27 (fun _ h9 => h9) rfl (tyX0_ok 3 (by decide)) rfl rfl (Nat.le_of_ble_eq_true rfl) dX0_tell_18 (fun H locs hP _ hS => ?_)
  rw [zt_p0_3 hk0, ← hσ4] at hP
  exact W.vret hx hb hr (fun t ht hW => ⟨⟨_, rfl, (Option.some.inj hf), zt_go hE hP hS zt_id ht hW⟩, hS.F ht⟩) hS.2.2 dX0_tell_21

theorem zh_X0_detail : yX0_detail.cls = RX0 ∧ yX0_detail.cls ≠ "java/lang/invoke/MethodHandle" ∧ yX0_detail.cls ≠ "java/lang/invoke/VarHandle" ∧ (parseMethodDescriptor yX0_detail.desc).map (fun d => d.parameters.length) = some 1 := by decide +kernel
set_option maxHeartbeats 4000000 in
set_option maxRecDepth 100000 in
theorem m_X0_detail (l : Launch) (G : zt_G) {σ : zt_St} {k0 : Nat} (hk0 : zt_kd k0 = 0) {x1 : Int32} {r : Int32} (hf : f_X0_detail σ k0 x1 = some r) : zt_Mi l G yX0_detail wsX0_detail 0 0 [.ref (zt_ad G k0), .int x1] σ r σ := by
  refine Met.ofW (cc := cX0_detail) (maxL := 2) (ret := (some .int)) (by decide) rfl ?_
  intro p e s m args below meth c s₁ B hml hv
  obtain ⟨rfl, hBB⟩ := hv
  have hE := zt_B.env hBB; have hK := hE.2.1; have hP := hBB.2.1
  have hx := B.exec; have hb := B.bytes; have hr := B.returns; have hts := atoms_spec (ws := wsX0_detail) B.pre
  have hown : s.vm.findClass RX0 = some m.cls := findClass_of_methodNamed B.named
  have hlocks := B.notSynchronized
  have hS : va_S (zt_A G) s.heap s.heap [] := va_S.rf
  have hl := lv_entry ([.ref (zt_ad G k0), .int x1]) (n := 2) (Nat.le_of_ble_eq_true rfl)
  rw [lg_entry_eq]
  generalize (lg_sl ([.ref (zt_ad G k0), .int x1]) ++ List.replicate (2 - (lg_sl ([.ref (zt_ad G k0), .int x1])).length) Slot.unset).toArray = ls at hl ⊢
  have hl : lv_has ls 2 [(0, .ref (zt_ad G k0)), (1, .int x1)] := hl
  show W p l e (zt_R 0 0) s m ([.ref (zt_ad G k0), .int x1] : List Value).toArray below meth c s.heap [] 0 0 (MQ below (zt_Ci G r σ) ([.ref (zt_ad G k0), .int x1] : List Value).toArray s 0 0 (zt_A G)) (F0 m 0 ls [])
  have fl9 := hts (.fieldLink RX0 9 "ZoneTree$Answer" "kind" "I") (List.mem_cons_of_mem _ (List.mem_append_left _ (List.mem_of_getElem? (i := 0) rfl)))
  have fl15 := hts (.fieldLink RX0 15 "ZoneTree$Answer" "number" "I") (List.mem_cons_of_mem _ (List.mem_append_left _ (List.mem_of_getElem? (i := 1) rfl)))
  have fl18 := hts (.fieldLink RX0 18 "ZoneTree$Answer" "name" "I") (List.mem_cons_of_mem _ (List.mem_append_left _ (List.mem_of_getElem? (i := 2) rfl)))
  have fl27 := hts (.fieldLink RX0 27 "ZoneTree$Answer" "life" "I") (List.mem_cons_of_mem _ (List.mem_append_left _ (List.mem_of_getElem? (i := 3) rfl)))
  have fl30 := hts (.fieldLink RX0 30 "ZoneTree$Answer" "questions" "I") (List.mem_cons_of_mem _ (List.mem_append_left _ (List.mem_of_getElem? (i := 4) rfl)))
  have fl33 := hts (.fieldLink RX0 33 "ZoneTree$Answer" "isOld" "Z") (List.mem_cons_of_mem _ (List.mem_append_left _ (List.mem_of_getElem? (i := 5) rfl)))
  have inX0 : ∀ w ∈ wsX00, w ∈ wsX0_detail := fun w h => (List.mem_cons_of_mem _ (List.mem_append_right _ h))
  unfold f_X0_detail at hf
  refine lv_aload_n hx hb dX0_detail_0 rfl (lv_at hl 0 rfl) ?_
  refine va_get (D := zt_D G) (ci := 0) (v := .int (σ k0 0)) (C := RX0) (T := TX0) (N := 8) hx hb hts inX0 hown hK hP k0 (zt_a0 hk0) rfl 0 (by decide) fl9 (fun _ h9 => h9) rfl dX0_detail_1 ?_
  refine lv_iconst (v := (-1)) hx hb dX0_detail_4 (by decide) ?_
  refine lv_icmp_ne (tgt := 10) hx hb dX0_detail_5 (by decide) (fun c1 => ?_) (fun c1 => ?_)
  · have hf := (if_neg c1).symm.trans hf
    refine lv_iload_n hx hb dX0_detail_10 rfl (lv_at hl 1 rfl) ?_
    by_cases c2 : x1 = 0
    · have hf := (if_pos c2).symm.trans hf
      refine lv_tableIn (off := 29) (tgt := 40) hx hb dX0_detail_11 (by rw [c2]; decide) (by rw [c2]; decide) (by rw [c2]; rfl) (by decide) ?_
      refine lv_aload_n hx hb dX0_detail_40 rfl (lv_at hl 0 rfl) ?_
      refine va_get (D := zt_D G) (ci := 0) (v := .int (σ k0 1)) (C := RX0) (T := TX0) (N := 8) hx hb hts inX0 hown hK hP k0 (zt_a0 hk0) rfl 1 (by decide) fl15 (fun _ h9 => h9) rfl dX0_detail_41 ?_
      exact W.iret hx hb hr (fun t ht hW => ⟨⟨_, _, rfl, ⟨Option.some.inj hf, rfl⟩, zt_go hE hP hS zt_id ht hW⟩, hS.F ht⟩) hS.2.2 dX0_detail_44
    · have hf := (if_neg c2).symm.trans hf
      by_cases c3 : x1 = 1
      · have hf := (if_pos c3).symm.trans hf
        refine lv_tableIn (off := 34) (tgt := 45) hx hb dX0_detail_11 (by rw [c3]; decide) (by rw [c3]; decide) (by rw [c3]; rfl) (by decide) ?_
        refine lv_aload_n hx hb dX0_detail_45 rfl (lv_at hl 0 rfl) ?_
        refine va_get (D := zt_D G) (ci := 0) (v := .int (σ k0 2)) (C := RX0) (T := TX0) (N := 8) hx hb hts inX0 hown hK hP k0 (zt_a0 hk0) rfl 2 (by decide) fl18 (fun _ h9 => h9) rfl dX0_detail_46 ?_
        exact W.iret hx hb hr (fun t ht hW => ⟨⟨_, _, rfl, ⟨Option.some.inj hf, rfl⟩, zt_go hE hP hS zt_id ht hW⟩, hS.F ht⟩) hS.2.2 dX0_detail_49
      · have hf := (if_neg c3).symm.trans hf
        by_cases c4 : x1 = 2
        · have hf := (if_pos c4).symm.trans hf
          refine lv_tableIn (off := 39) (tgt := 50) hx hb dX0_detail_11 (by rw [c4]; decide) (by rw [c4]; decide) (by rw [c4]; rfl) (by decide) ?_
          refine lv_aload_n hx hb dX0_detail_50 rfl (lv_at hl 0 rfl) ?_
          refine va_get (D := zt_D G) (ci := 0) (v := .int (σ k0 3)) (C := RX0) (T := TX0) (N := 8) hx hb hts inX0 hown hK hP k0 (zt_a0 hk0) rfl 3 (by decide) fl27 (fun _ h9 => h9) rfl dX0_detail_51 ?_
          exact W.iret hx hb hr (fun t ht hW => ⟨⟨_, _, rfl, ⟨Option.some.inj hf, rfl⟩, zt_go hE hP hS zt_id ht hW⟩, hS.F ht⟩) hS.2.2 dX0_detail_54
        · have hf := (if_neg c4).symm.trans hf
          by_cases c5 : x1 = 3
          · have hf := (if_pos c5).symm.trans hf
            refine lv_tableIn (off := 44) (tgt := 55) hx hb dX0_detail_11 (by rw [c5]; decide) (by rw [c5]; decide) (by rw [c5]; rfl) (by decide) ?_
            refine lv_aload_n hx hb dX0_detail_55 rfl (lv_at hl 0 rfl) ?_
            refine va_get (D := zt_D G) (ci := 0) (v := .int (σ k0 4)) (C := RX0) (T := TX0) (N := 8) hx hb hts inX0 hown hK hP k0 (zt_a0 hk0) rfl 4 (by decide) fl30 (fun _ h9 => h9) rfl dX0_detail_56 ?_
            exact W.iret hx hb hr (fun t ht hW => ⟨⟨_, _, rfl, ⟨Option.some.inj hf, rfl⟩, zt_go hE hP hS zt_id ht hW⟩, hS.F ht⟩) hS.2.2 dX0_detail_59
          · have hf := (if_neg c5).symm.trans hf
            have hc2 := zt_nz (0) (by decide) c2
            have hc3 := zt_nz (1) (by decide) c3
            have hc4 := zt_nz (2) (by decide) c4
            have hc5 := zt_nz (3) (by decide) c5
            refine lv_tableOut (tgt := 60) hx hb dX0_detail_11 (by omega) (by decide) ?_
            refine lv_aload_n hx hb dX0_detail_60 rfl (lv_at hl 0 rfl) ?_
            refine va_get (D := zt_D G) (ci := 0) (v := .int (σ k0 5)) (C := RX0) (T := TX0) (N := 8) hx hb hts inX0 hown hK hP k0 (zt_a0 hk0) rfl 5 (by decide) fl33 (fun _ h9 => h9) rfl dX0_detail_61 ?_
            refine lv_if_eq (tgt := 71) hx hb dX0_detail_64 (by decide) (fun c6 => ?_) (fun c6 => ?_)
            · have hf := (if_pos c6).symm.trans hf
              refine lv_iconst (v := 0) hx hb dX0_detail_71 (by decide) ?_
              exact W.iret hx hb hr (fun t ht hW => ⟨⟨_, _, rfl, ⟨Option.some.inj hf, rfl⟩, zt_go hE hP hS zt_id ht hW⟩, hS.F ht⟩) hS.2.2 dX0_detail_72
            · have hf := (if_neg c6).symm.trans hf
              refine lv_iconst (v := 1) hx hb dX0_detail_67 (by decide) ?_
              refine lv_goto (tgt := 72) hx hb dX0_detail_68 (by decide) ?_
              exact W.iret hx hb hr (fun t ht hW => ⟨⟨_, _, rfl, ⟨Option.some.inj hf, rfl⟩, zt_go hE hP hS zt_id ht hW⟩, hS.F ht⟩) hS.2.2 dX0_detail_72
  · have hf := (if_pos c1).symm.trans hf
    refine lv_iconst (v := (-1)) hx hb dX0_detail_8 (by decide) ?_
    exact W.iret hx hb hr (fun t ht hW => ⟨⟨_, _, rfl, ⟨Option.some.inj hf, rfl⟩, zt_go hE hP hS zt_id ht hW⟩, hS.F ht⟩) hS.2.2 dX0_detail_9

theorem zh_X4_placeAt : yX4_placeAt.cls = RX4 ∧ yX4_placeAt.cls ≠ "java/lang/invoke/MethodHandle" ∧ yX4_placeAt.cls ≠ "java/lang/invoke/VarHandle" ∧ (parseMethodDescriptor yX4_placeAt.desc).map (fun d => d.parameters.length) = some 1 := by decide +kernel
set_option maxHeartbeats 4000000 in
set_option maxRecDepth 100000 in
theorem m_X4_placeAt (l : Launch) (G : zt_G) {σ : zt_St} {k0 : Nat} (hk0 : zt_kd k0 = 3) {x1 : Int32} {r : Int32} (hf : f_X4_placeAt σ k0 x1 = some r) : zt_Mi l G yX4_placeAt wsX4_placeAt 0 0 [.ref (zt_ad G k0), .int x1] σ r σ := by
  refine Met.ofW (cc := cX4_placeAt) (maxL := 2) (ret := (some .int)) (by decide) rfl ?_
  intro p e s m args below meth c s₁ B hml hv
  obtain ⟨rfl, hBB⟩ := hv
  have hE := zt_B.env hBB; have hK := hE.2.1; have hP := hBB.2.1
  have hx := B.exec; have hb := B.bytes; have hr := B.returns; have hts := atoms_spec (ws := wsX4_placeAt) B.pre
  have hown : s.vm.findClass RX4 = some m.cls := findClass_of_methodNamed B.named
  have hlocks := B.notSynchronized
  have hS : va_S (zt_A G) s.heap s.heap [] := va_S.rf
  have hl := lv_entry ([.ref (zt_ad G k0), .int x1]) (n := 2) (Nat.le_of_ble_eq_true rfl)
  rw [lg_entry_eq]
  generalize (lg_sl ([.ref (zt_ad G k0), .int x1]) ++ List.replicate (2 - (lg_sl ([.ref (zt_ad G k0), .int x1])).length) Slot.unset).toArray = ls at hl ⊢
  have hl : lv_has ls 2 [(0, .ref (zt_ad G k0)), (1, .int x1)] := hl
  show W p l e (zt_R 0 0) s m ([.ref (zt_ad G k0), .int x1] : List Value).toArray below meth c s.heap [] 0 0 (MQ below (zt_Ci G r σ) ([.ref (zt_ad G k0), .int x1] : List Value).toArray s 0 0 (zt_A G)) (F0 m 0 ls [])
  have fl9 := hts (.fieldLink RX4 9 "ZoneTree$Records" "places" "[I") (List.mem_cons_of_mem _ (List.mem_append_left _ (List.mem_of_getElem? (i := 1) rfl)))
  have fl24 := hts (.fieldLink RX4 24 "ZoneTree$Records" "count" "I") (List.mem_cons_of_mem _ (List.mem_append_left _ (List.mem_of_getElem? (i := 0) rfl)))
  have inX4 : ∀ w ∈ wsX40, w ∈ wsX4_placeAt := fun w h => (List.mem_cons_of_mem _ (List.mem_append_right _ h))
  unfold f_X4_placeAt at hf
  refine lv_iload_n hx hb dX4_placeAt_0 rfl (lv_at hl 1 rfl) ?_
  refine lv_if_lt (tgt := 30) hx hb dX4_placeAt_1 (by decide) (fun c1 => ?_) (fun c1 => ?_)
  · have hf := (if_pos c1).symm.trans hf
    refine lv_iconst (v := (-1)) hx hb dX4_placeAt_30 (by decide) ?_
    exact W.iret hx hb hr (fun t ht hW => ⟨⟨_, _, rfl, ⟨Option.some.inj hf, rfl⟩, zt_go hE hP hS zt_id ht hW⟩, hS.F ht⟩) hS.2.2 dX4_placeAt_31
  · have hf := (if_neg c1).symm.trans hf
    refine lv_iload_n hx hb dX4_placeAt_4 rfl (lv_at hl 1 rfl) ?_
    refine lv_aload_n hx hb dX4_placeAt_5 rfl (lv_at hl 0 rfl) ?_
    refine va_get (D := zt_D G) (ci := 3) (v := .int (σ k0 4)) (C := RX4) (T := TX4) (N := 5) hx hb hts inX4 hown hK hP k0 (zt_a3 hk0) rfl 4 (by decide) fl24 (fun _ h9 => h9) rfl dX4_placeAt_6 ?_
    refine lv_icmp_ge (tgt := 30) hx hb dX4_placeAt_9 (by decide) (fun c2 => ?_) (fun c2 => ?_)
    · have hf := (if_pos c2).symm.trans hf
      refine lv_iconst (v := (-1)) hx hb dX4_placeAt_30 (by decide) ?_
      exact W.iret hx hb hr (fun t ht hW => ⟨⟨_, _, rfl, ⟨Option.some.inj hf, rfl⟩, zt_go hE hP hS zt_id ht hW⟩, hS.F ht⟩) hS.2.2 dX4_placeAt_31
    · have hf := (if_neg c2).symm.trans hf
      refine lv_iload_n hx hb dX4_placeAt_12 rfl (lv_at hl 1 rfl) ?_
      refine lv_aload_n hx hb dX4_placeAt_13 rfl (lv_at hl 0 rfl) ?_
      refine va_get (D := zt_D G) (ci := 3) (v := .ref (zt_ad G (k0 + 1))) (C := RX4) (T := TX4) (N := 5) hx hb hts inX4 hown hK hP k0 (zt_a3 hk0) rfl 0 (by decide) fl9 (fun _ h9 => h9) rfl dX4_placeAt_14 ?_
      refine va_alen hx hb hK hP (k0 + 1) 0 (zt_a9 (zt_k3_0 hk0)) rfl (v := Int32.ofNat (zt_ln (k0 + 1))) rfl dX4_placeAt_17 ?_
      refine lv_icmp_ge (tgt := 30) hx hb dX4_placeAt_18 (by decide) (fun c3 => ?_) (fun c3 => ?_)
      · have hf := (if_pos c3).symm.trans hf
        refine lv_iconst (v := (-1)) hx hb dX4_placeAt_30 (by decide) ?_
        exact W.iret hx hb hr (fun t ht hW => ⟨⟨_, _, rfl, ⟨Option.some.inj hf, rfl⟩, zt_go hE hP hS zt_id ht hW⟩, hS.F ht⟩) hS.2.2 dX4_placeAt_31
      · have hf := (if_neg c3).symm.trans hf
        refine lv_aload_n hx hb dX4_placeAt_21 rfl (lv_at hl 0 rfl) ?_
        refine va_get (D := zt_D G) (ci := 3) (v := .ref (zt_ad G (k0 + 1))) (C := RX4) (T := TX4) (N := 5) hx hb hts inX4 hown hK hP k0 (zt_a3 hk0) rfl 0 (by decide) fl9 (fun _ h9 => h9) rfl dX4_placeAt_22 ?_
        refine lv_iload_n hx hb dX4_placeAt_25 rfl (lv_at hl 1 rfl) ?_
        obtain ⟨g4, hf⟩ := zt_gd_some hf
        refine va_iald hx hb hK hP (k0 + 1) 0 (zt_a9 (zt_k3_0 hk0)) rfl (zt_gI_in g4) dX4_placeAt_26 ?_
        refine lv_goto (tgt := 31) hx hb dX4_placeAt_27 (by decide) ?_
        exact W.iret hx hb hr (fun t ht hW => ⟨⟨_, _, rfl, ⟨Option.some.inj hf, rfl⟩, zt_go hE hP hS zt_id ht hW⟩, hS.F ht⟩) hS.2.2 dX4_placeAt_31

theorem zh_X4_sortAt : yX4_sortAt.cls = RX4 ∧ yX4_sortAt.cls ≠ "java/lang/invoke/MethodHandle" ∧ yX4_sortAt.cls ≠ "java/lang/invoke/VarHandle" ∧ (parseMethodDescriptor yX4_sortAt.desc).map (fun d => d.parameters.length) = some 1 := by decide +kernel
set_option maxHeartbeats 4000000 in
set_option maxRecDepth 100000 in
theorem m_X4_sortAt (l : Launch) (G : zt_G) {σ : zt_St} {k0 : Nat} (hk0 : zt_kd k0 = 3) {x1 : Int32} {r : Int32} (hf : f_X4_sortAt σ k0 x1 = some r) : zt_Mi l G yX4_sortAt wsX4_sortAt 0 0 [.ref (zt_ad G k0), .int x1] σ r σ := by
  refine Met.ofW (cc := cX4_sortAt) (maxL := 2) (ret := (some .int)) (by decide) rfl ?_
  intro p e s m args below meth c s₁ B hml hv
  obtain ⟨rfl, hBB⟩ := hv
  have hE := zt_B.env hBB; have hK := hE.2.1; have hP := hBB.2.1
  have hx := B.exec; have hb := B.bytes; have hr := B.returns; have hts := atoms_spec (ws := wsX4_sortAt) B.pre
  have hown : s.vm.findClass RX4 = some m.cls := findClass_of_methodNamed B.named
  have hlocks := B.notSynchronized
  have hS : va_S (zt_A G) s.heap s.heap [] := va_S.rf
  have hl := lv_entry ([.ref (zt_ad G k0), .int x1]) (n := 2) (Nat.le_of_ble_eq_true rfl)
  rw [lg_entry_eq]
  generalize (lg_sl ([.ref (zt_ad G k0), .int x1]) ++ List.replicate (2 - (lg_sl ([.ref (zt_ad G k0), .int x1])).length) Slot.unset).toArray = ls at hl ⊢
  have hl : lv_has ls 2 [(0, .ref (zt_ad G k0)), (1, .int x1)] := hl
  show W p l e (zt_R 0 0) s m ([.ref (zt_ad G k0), .int x1] : List Value).toArray below meth c s.heap [] 0 0 (MQ below (zt_Ci G r σ) ([.ref (zt_ad G k0), .int x1] : List Value).toArray s 0 0 (zt_A G)) (F0 m 0 ls [])
  have fl15 := hts (.fieldLink RX4 15 "ZoneTree$Records" "sorts" "[I") (List.mem_cons_of_mem _ (List.mem_append_left _ (List.mem_of_getElem? (i := 1) rfl)))
  have fl24 := hts (.fieldLink RX4 24 "ZoneTree$Records" "count" "I") (List.mem_cons_of_mem _ (List.mem_append_left _ (List.mem_of_getElem? (i := 0) rfl)))
  have inX4 : ∀ w ∈ wsX40, w ∈ wsX4_sortAt := fun w h => (List.mem_cons_of_mem _ (List.mem_append_right _ h))
  unfold f_X4_sortAt at hf
  refine lv_iload_n hx hb dX4_sortAt_0 rfl (lv_at hl 1 rfl) ?_
  refine lv_if_lt (tgt := 30) hx hb dX4_sortAt_1 (by decide) (fun c1 => ?_) (fun c1 => ?_)
  · have hf := (if_pos c1).symm.trans hf
    refine lv_iconst (v := (-1)) hx hb dX4_sortAt_30 (by decide) ?_
    exact W.iret hx hb hr (fun t ht hW => ⟨⟨_, _, rfl, ⟨Option.some.inj hf, rfl⟩, zt_go hE hP hS zt_id ht hW⟩, hS.F ht⟩) hS.2.2 dX4_sortAt_31
  · have hf := (if_neg c1).symm.trans hf
    refine lv_iload_n hx hb dX4_sortAt_4 rfl (lv_at hl 1 rfl) ?_
    refine lv_aload_n hx hb dX4_sortAt_5 rfl (lv_at hl 0 rfl) ?_
    refine va_get (D := zt_D G) (ci := 3) (v := .int (σ k0 4)) (C := RX4) (T := TX4) (N := 5) hx hb hts inX4 hown hK hP k0 (zt_a3 hk0) rfl 4 (by decide) fl24 (fun _ h9 => h9) rfl dX4_sortAt_6 ?_
    refine lv_icmp_ge (tgt := 30) hx hb dX4_sortAt_9 (by decide) (fun c2 => ?_) (fun c2 => ?_)
    · have hf := (if_pos c2).symm.trans hf
      refine lv_iconst (v := (-1)) hx hb dX4_sortAt_30 (by decide) ?_
      exact W.iret hx hb hr (fun t ht hW => ⟨⟨_, _, rfl, ⟨Option.some.inj hf, rfl⟩, zt_go hE hP hS zt_id ht hW⟩, hS.F ht⟩) hS.2.2 dX4_sortAt_31
    · have hf := (if_neg c2).symm.trans hf
      refine lv_iload_n hx hb dX4_sortAt_12 rfl (lv_at hl 1 rfl) ?_
      refine lv_aload_n hx hb dX4_sortAt_13 rfl (lv_at hl 0 rfl) ?_
      refine va_get (D := zt_D G) (ci := 3) (v := .ref (zt_ad G (k0 + 2))) (C := RX4) (T := TX4) (N := 5) hx hb hts inX4 hown hK hP k0 (zt_a3 hk0) rfl 1 (by decide) fl15 (fun _ h9 => h9) rfl dX4_sortAt_14 ?_
      refine va_alen hx hb hK hP (k0 + 2) 0 (zt_a9 (zt_k3_1 hk0)) rfl (v := Int32.ofNat (zt_ln (k0 + 2))) rfl dX4_sortAt_17 ?_
      refine lv_icmp_ge (tgt := 30) hx hb dX4_sortAt_18 (by decide) (fun c3 => ?_) (fun c3 => ?_)
      · have hf := (if_pos c3).symm.trans hf
        refine lv_iconst (v := (-1)) hx hb dX4_sortAt_30 (by decide) ?_
        exact W.iret hx hb hr (fun t ht hW => ⟨⟨_, _, rfl, ⟨Option.some.inj hf, rfl⟩, zt_go hE hP hS zt_id ht hW⟩, hS.F ht⟩) hS.2.2 dX4_sortAt_31
      · have hf := (if_neg c3).symm.trans hf
        refine lv_aload_n hx hb dX4_sortAt_21 rfl (lv_at hl 0 rfl) ?_
        refine va_get (D := zt_D G) (ci := 3) (v := .ref (zt_ad G (k0 + 2))) (C := RX4) (T := TX4) (N := 5) hx hb hts inX4 hown hK hP k0 (zt_a3 hk0) rfl 1 (by decide) fl15 (fun _ h9 => h9) rfl dX4_sortAt_22 ?_
        refine lv_iload_n hx hb dX4_sortAt_25 rfl (lv_at hl 1 rfl) ?_
        obtain ⟨g4, hf⟩ := zt_gd_some hf
        refine va_iald hx hb hK hP (k0 + 2) 0 (zt_a9 (zt_k3_1 hk0)) rfl (zt_gI_in g4) dX4_sortAt_26 ?_
        refine lv_goto (tgt := 31) hx hb dX4_sortAt_27 (by decide) ?_
        exact W.iret hx hb hr (fun t ht hW => ⟨⟨_, _, rfl, ⟨Option.some.inj hf, rfl⟩, zt_go hE hP hS zt_id ht hW⟩, hS.F ht⟩) hS.2.2 dX4_sortAt_31

theorem zh_X4_numberAt : yX4_numberAt.cls = RX4 ∧ yX4_numberAt.cls ≠ "java/lang/invoke/MethodHandle" ∧ yX4_numberAt.cls ≠ "java/lang/invoke/VarHandle" ∧ (parseMethodDescriptor yX4_numberAt.desc).map (fun d => d.parameters.length) = some 1 := by decide +kernel
set_option maxHeartbeats 4000000 in
set_option maxRecDepth 100000 in
theorem m_X4_numberAt (l : Launch) (G : zt_G) {σ : zt_St} {k0 : Nat} (hk0 : zt_kd k0 = 3) {x1 : Int32} {r : Int32} (hf : f_X4_numberAt σ k0 x1 = some r) : zt_Mi l G yX4_numberAt wsX4_numberAt 0 0 [.ref (zt_ad G k0), .int x1] σ r σ := by
  refine Met.ofW (cc := cX4_numberAt) (maxL := 2) (ret := (some .int)) (by decide) rfl ?_
  intro p e s m args below meth c s₁ B hml hv
  obtain ⟨rfl, hBB⟩ := hv
  have hE := zt_B.env hBB; have hK := hE.2.1; have hP := hBB.2.1
  have hx := B.exec; have hb := B.bytes; have hr := B.returns; have hts := atoms_spec (ws := wsX4_numberAt) B.pre
  have hown : s.vm.findClass RX4 = some m.cls := findClass_of_methodNamed B.named
  have hlocks := B.notSynchronized
  have hS : va_S (zt_A G) s.heap s.heap [] := va_S.rf
  have hl := lv_entry ([.ref (zt_ad G k0), .int x1]) (n := 2) (Nat.le_of_ble_eq_true rfl)
  rw [lg_entry_eq]
  generalize (lg_sl ([.ref (zt_ad G k0), .int x1]) ++ List.replicate (2 - (lg_sl ([.ref (zt_ad G k0), .int x1])).length) Slot.unset).toArray = ls at hl ⊢
  have hl : lv_has ls 2 [(0, .ref (zt_ad G k0)), (1, .int x1)] := hl
  show W p l e (zt_R 0 0) s m ([.ref (zt_ad G k0), .int x1] : List Value).toArray below meth c s.heap [] 0 0 (MQ below (zt_Ci G r σ) ([.ref (zt_ad G k0), .int x1] : List Value).toArray s 0 0 (zt_A G)) (F0 m 0 ls [])
  have fl18 := hts (.fieldLink RX4 18 "ZoneTree$Records" "numbers" "[I") (List.mem_cons_of_mem _ (List.mem_append_left _ (List.mem_of_getElem? (i := 1) rfl)))
  have fl24 := hts (.fieldLink RX4 24 "ZoneTree$Records" "count" "I") (List.mem_cons_of_mem _ (List.mem_append_left _ (List.mem_of_getElem? (i := 0) rfl)))
  have inX4 : ∀ w ∈ wsX40, w ∈ wsX4_numberAt := fun w h => (List.mem_cons_of_mem _ (List.mem_append_right _ h))
  unfold f_X4_numberAt at hf
  refine lv_iload_n hx hb dX4_numberAt_0 rfl (lv_at hl 1 rfl) ?_
  refine lv_if_lt (tgt := 30) hx hb dX4_numberAt_1 (by decide) (fun c1 => ?_) (fun c1 => ?_)
  · have hf := (if_pos c1).symm.trans hf
    refine lv_iconst (v := (-1)) hx hb dX4_numberAt_30 (by decide) ?_
    exact W.iret hx hb hr (fun t ht hW => ⟨⟨_, _, rfl, ⟨Option.some.inj hf, rfl⟩, zt_go hE hP hS zt_id ht hW⟩, hS.F ht⟩) hS.2.2 dX4_numberAt_31
  · have hf := (if_neg c1).symm.trans hf
    refine lv_iload_n hx hb dX4_numberAt_4 rfl (lv_at hl 1 rfl) ?_
    refine lv_aload_n hx hb dX4_numberAt_5 rfl (lv_at hl 0 rfl) ?_
    refine va_get (D := zt_D G) (ci := 3) (v := .int (σ k0 4)) (C := RX4) (T := TX4) (N := 5) hx hb hts inX4 hown hK hP k0 (zt_a3 hk0) rfl 4 (by decide) fl24 (fun _ h9 => h9) rfl dX4_numberAt_6 ?_
    refine lv_icmp_ge (tgt := 30) hx hb dX4_numberAt_9 (by decide) (fun c2 => ?_) (fun c2 => ?_)
    · have hf := (if_pos c2).symm.trans hf
      refine lv_iconst (v := (-1)) hx hb dX4_numberAt_30 (by decide) ?_
      exact W.iret hx hb hr (fun t ht hW => ⟨⟨_, _, rfl, ⟨Option.some.inj hf, rfl⟩, zt_go hE hP hS zt_id ht hW⟩, hS.F ht⟩) hS.2.2 dX4_numberAt_31
    · have hf := (if_neg c2).symm.trans hf
      refine lv_iload_n hx hb dX4_numberAt_12 rfl (lv_at hl 1 rfl) ?_
      refine lv_aload_n hx hb dX4_numberAt_13 rfl (lv_at hl 0 rfl) ?_
      refine va_get (D := zt_D G) (ci := 3) (v := .ref (zt_ad G (k0 + 3))) (C := RX4) (T := TX4) (N := 5) hx hb hts inX4 hown hK hP k0 (zt_a3 hk0) rfl 2 (by decide) fl18 (fun _ h9 => h9) rfl dX4_numberAt_14 ?_
      refine va_alen hx hb hK hP (k0 + 3) 0 (zt_a9 (zt_k3_2 hk0)) rfl (v := Int32.ofNat (zt_ln (k0 + 3))) rfl dX4_numberAt_17 ?_
      refine lv_icmp_ge (tgt := 30) hx hb dX4_numberAt_18 (by decide) (fun c3 => ?_) (fun c3 => ?_)
      · have hf := (if_pos c3).symm.trans hf
        refine lv_iconst (v := (-1)) hx hb dX4_numberAt_30 (by decide) ?_
        exact W.iret hx hb hr (fun t ht hW => ⟨⟨_, _, rfl, ⟨Option.some.inj hf, rfl⟩, zt_go hE hP hS zt_id ht hW⟩, hS.F ht⟩) hS.2.2 dX4_numberAt_31
      · have hf := (if_neg c3).symm.trans hf
        refine lv_aload_n hx hb dX4_numberAt_21 rfl (lv_at hl 0 rfl) ?_
        refine va_get (D := zt_D G) (ci := 3) (v := .ref (zt_ad G (k0 + 3))) (C := RX4) (T := TX4) (N := 5) hx hb hts inX4 hown hK hP k0 (zt_a3 hk0) rfl 2 (by decide) fl18 (fun _ h9 => h9) rfl dX4_numberAt_22 ?_
        refine lv_iload_n hx hb dX4_numberAt_25 rfl (lv_at hl 1 rfl) ?_
        obtain ⟨g4, hf⟩ := zt_gd_some hf
        refine va_iald hx hb hK hP (k0 + 3) 0 (zt_a9 (zt_k3_2 hk0)) rfl (zt_gI_in g4) dX4_numberAt_26 ?_
        refine lv_goto (tgt := 31) hx hb dX4_numberAt_27 (by decide) ?_
        exact W.iret hx hb hr (fun t ht hW => ⟨⟨_, _, rfl, ⟨Option.some.inj hf, rfl⟩, zt_go hE hP hS zt_id ht hW⟩, hS.F ht⟩) hS.2.2 dX4_numberAt_31

theorem zh_X4_lifeAt : yX4_lifeAt.cls = RX4 ∧ yX4_lifeAt.cls ≠ "java/lang/invoke/MethodHandle" ∧ yX4_lifeAt.cls ≠ "java/lang/invoke/VarHandle" ∧ (parseMethodDescriptor yX4_lifeAt.desc).map (fun d => d.parameters.length) = some 1 := by decide +kernel
set_option maxHeartbeats 4000000 in
set_option maxRecDepth 100000 in
theorem m_X4_lifeAt (l : Launch) (G : zt_G) {σ : zt_St} {k0 : Nat} (hk0 : zt_kd k0 = 3) {x1 : Int32} {r : Int32} (hf : f_X4_lifeAt σ k0 x1 = some r) : zt_Mi l G yX4_lifeAt wsX4_lifeAt 0 0 [.ref (zt_ad G k0), .int x1] σ r σ := by
  refine Met.ofW (cc := cX4_lifeAt) (maxL := 2) (ret := (some .int)) (by decide) rfl ?_
  intro p e s m args below meth c s₁ B hml hv
  obtain ⟨rfl, hBB⟩ := hv
  have hE := zt_B.env hBB; have hK := hE.2.1; have hP := hBB.2.1
  have hx := B.exec; have hb := B.bytes; have hr := B.returns; have hts := atoms_spec (ws := wsX4_lifeAt) B.pre
  have hown : s.vm.findClass RX4 = some m.cls := findClass_of_methodNamed B.named
  have hlocks := B.notSynchronized
  have hS : va_S (zt_A G) s.heap s.heap [] := va_S.rf
  have hl := lv_entry ([.ref (zt_ad G k0), .int x1]) (n := 2) (Nat.le_of_ble_eq_true rfl)
  rw [lg_entry_eq]
  generalize (lg_sl ([.ref (zt_ad G k0), .int x1]) ++ List.replicate (2 - (lg_sl ([.ref (zt_ad G k0), .int x1])).length) Slot.unset).toArray = ls at hl ⊢
  have hl : lv_has ls 2 [(0, .ref (zt_ad G k0)), (1, .int x1)] := hl
  show W p l e (zt_R 0 0) s m ([.ref (zt_ad G k0), .int x1] : List Value).toArray below meth c s.heap [] 0 0 (MQ below (zt_Ci G r σ) ([.ref (zt_ad G k0), .int x1] : List Value).toArray s 0 0 (zt_A G)) (F0 m 0 ls [])
  have fl21 := hts (.fieldLink RX4 21 "ZoneTree$Records" "lives" "[I") (List.mem_cons_of_mem _ (List.mem_append_left _ (List.mem_of_getElem? (i := 1) rfl)))
  have fl24 := hts (.fieldLink RX4 24 "ZoneTree$Records" "count" "I") (List.mem_cons_of_mem _ (List.mem_append_left _ (List.mem_of_getElem? (i := 0) rfl)))
  have inX4 : ∀ w ∈ wsX40, w ∈ wsX4_lifeAt := fun w h => (List.mem_cons_of_mem _ (List.mem_append_right _ h))
  unfold f_X4_lifeAt at hf
  refine lv_iload_n hx hb dX4_lifeAt_0 rfl (lv_at hl 1 rfl) ?_
  refine lv_if_lt (tgt := 30) hx hb dX4_lifeAt_1 (by decide) (fun c1 => ?_) (fun c1 => ?_)
  · have hf := (if_pos c1).symm.trans hf
    refine lv_iconst (v := 0) hx hb dX4_lifeAt_30 (by decide) ?_
    exact W.iret hx hb hr (fun t ht hW => ⟨⟨_, _, rfl, ⟨Option.some.inj hf, rfl⟩, zt_go hE hP hS zt_id ht hW⟩, hS.F ht⟩) hS.2.2 dX4_lifeAt_31
  · have hf := (if_neg c1).symm.trans hf
    refine lv_iload_n hx hb dX4_lifeAt_4 rfl (lv_at hl 1 rfl) ?_
    refine lv_aload_n hx hb dX4_lifeAt_5 rfl (lv_at hl 0 rfl) ?_
    refine va_get (D := zt_D G) (ci := 3) (v := .int (σ k0 4)) (C := RX4) (T := TX4) (N := 5) hx hb hts inX4 hown hK hP k0 (zt_a3 hk0) rfl 4 (by decide) fl24 (fun _ h9 => h9) rfl dX4_lifeAt_6 ?_
    refine lv_icmp_ge (tgt := 30) hx hb dX4_lifeAt_9 (by decide) (fun c2 => ?_) (fun c2 => ?_)
    · have hf := (if_pos c2).symm.trans hf
      refine lv_iconst (v := 0) hx hb dX4_lifeAt_30 (by decide) ?_
      exact W.iret hx hb hr (fun t ht hW => ⟨⟨_, _, rfl, ⟨Option.some.inj hf, rfl⟩, zt_go hE hP hS zt_id ht hW⟩, hS.F ht⟩) hS.2.2 dX4_lifeAt_31
    · have hf := (if_neg c2).symm.trans hf
      refine lv_iload_n hx hb dX4_lifeAt_12 rfl (lv_at hl 1 rfl) ?_
      refine lv_aload_n hx hb dX4_lifeAt_13 rfl (lv_at hl 0 rfl) ?_
      refine va_get (D := zt_D G) (ci := 3) (v := .ref (zt_ad G (k0 + 4))) (C := RX4) (T := TX4) (N := 5) hx hb hts inX4 hown hK hP k0 (zt_a3 hk0) rfl 3 (by decide) fl21 (fun _ h9 => h9) rfl dX4_lifeAt_14 ?_
      refine va_alen hx hb hK hP (k0 + 4) 0 (zt_a9 (zt_k3_3 hk0)) rfl (v := Int32.ofNat (zt_ln (k0 + 4))) rfl dX4_lifeAt_17 ?_
      refine lv_icmp_ge (tgt := 30) hx hb dX4_lifeAt_18 (by decide) (fun c3 => ?_) (fun c3 => ?_)
      · have hf := (if_pos c3).symm.trans hf
        refine lv_iconst (v := 0) hx hb dX4_lifeAt_30 (by decide) ?_
        exact W.iret hx hb hr (fun t ht hW => ⟨⟨_, _, rfl, ⟨Option.some.inj hf, rfl⟩, zt_go hE hP hS zt_id ht hW⟩, hS.F ht⟩) hS.2.2 dX4_lifeAt_31
      · have hf := (if_neg c3).symm.trans hf
        refine lv_aload_n hx hb dX4_lifeAt_21 rfl (lv_at hl 0 rfl) ?_
        refine va_get (D := zt_D G) (ci := 3) (v := .ref (zt_ad G (k0 + 4))) (C := RX4) (T := TX4) (N := 5) hx hb hts inX4 hown hK hP k0 (zt_a3 hk0) rfl 3 (by decide) fl21 (fun _ h9 => h9) rfl dX4_lifeAt_22 ?_
        refine lv_iload_n hx hb dX4_lifeAt_25 rfl (lv_at hl 1 rfl) ?_
        obtain ⟨g4, hf⟩ := zt_gd_some hf
        refine va_iald hx hb hK hP (k0 + 4) 0 (zt_a9 (zt_k3_3 hk0)) rfl (zt_gI_in g4) dX4_lifeAt_26 ?_
        refine lv_goto (tgt := 31) hx hb dX4_lifeAt_27 (by decide) ?_
        exact W.iret hx hb hr (fun t ht hW => ⟨⟨_, _, rfl, ⟨Option.some.inj hf, rfl⟩, zt_go hE hP hS zt_id ht hW⟩, hS.F ht⟩) hS.2.2 dX4_lifeAt_31

theorem zh_X4_become : yX4_become.cls = RX4 ∧ yX4_become.cls ≠ "java/lang/invoke/MethodHandle" ∧ yX4_become.cls ≠ "java/lang/invoke/VarHandle" ∧ (parseMethodDescriptor yX4_become.desc).map (fun d => d.parameters.length) = some 1 := by decide +kernel
set_option maxHeartbeats 4000000 in
set_option maxRecDepth 100000 in
theorem m_X4_become (l : Launch) (G : zt_G) {σ : zt_St} {k0 : Nat} (hk0 : zt_kd k0 = 3) {k1 : Nat} (hk1 : zt_kd k1 = 3) {σ1 : zt_St} (hf : f_X4_become σ k0 k1 = some σ1) : zt_Mv l G yX4_become wsX4_become 1 22 [.ref (zt_ad G k0), .ref (zt_ad G k1)] σ σ1 := by
  refine Met.ofW (cc := cX4_become) (maxL := 3) (ret := none) (by decide) rfl ?_
  intro p e s m args below meth c s₁ B hml hv
  obtain ⟨rfl, hBB⟩ := hv
  have hE := zt_B.env hBB; have hK := hE.2.1; have hP := hBB.2.1
  have hx := B.exec; have hb := B.bytes; have hr := B.returns; have hts := atoms_spec (ws := wsX4_become) B.pre
  have hown : s.vm.findClass RX4 = some m.cls := findClass_of_methodNamed B.named
  have hlocks := B.notSynchronized
  have hS : va_S (zt_A G) s.heap s.heap [] := va_S.rf
  have hl := lv_entry ([.ref (zt_ad G k0), .ref (zt_ad G k1)]) (n := 3) (Nat.le_of_ble_eq_true rfl)
  rw [lg_entry_eq]
  generalize (lg_sl ([.ref (zt_ad G k0), .ref (zt_ad G k1)]) ++ List.replicate (3 - (lg_sl ([.ref (zt_ad G k0), .ref (zt_ad G k1)])).length) Slot.unset).toArray = ls at hl ⊢
  have hl : lv_has ls 3 [(0, .ref (zt_ad G k0)), (1, .ref (zt_ad G k1))] := hl
  show W p l e (zt_R 1 22) s m ([.ref (zt_ad G k0), .ref (zt_ad G k1)] : List Value).toArray below meth c s.heap [] 0 0 (MQ below (zt_Cv G σ1) ([.ref (zt_ad G k0), .ref (zt_ad G k1)] : List Value).toArray s 0 0 (zt_A G)) (F0 m 0 ls [])
  have fl9 := hts (.fieldLink RX4 9 "ZoneTree$Records" "places" "[I") (List.mem_cons_of_mem _ (List.mem_append_left _ (List.mem_append_left _ (List.mem_of_getElem? (i := 1) rfl))))
  have fl15 := hts (.fieldLink RX4 15 "ZoneTree$Records" "sorts" "[I") (List.mem_cons_of_mem _ (List.mem_append_left _ (List.mem_append_left _ (List.mem_of_getElem? (i := 6) rfl))))
  have fl18 := hts (.fieldLink RX4 18 "ZoneTree$Records" "numbers" "[I") (List.mem_cons_of_mem _ (List.mem_append_left _ (List.mem_append_left _ (List.mem_of_getElem? (i := 7) rfl))))
  have fl21 := hts (.fieldLink RX4 21 "ZoneTree$Records" "lives" "[I") (List.mem_cons_of_mem _ (List.mem_append_left _ (List.mem_append_left _ (List.mem_of_getElem? (i := 8) rfl))))
  have fl24 := hts (.fieldLink RX4 24 "ZoneTree$Records" "count" "I") (List.mem_cons_of_mem _ (List.mem_append_left _ (List.mem_append_left _ (List.mem_of_getElem? (i := 0) rfl))))
  have inX4 : ∀ w ∈ wsX40, w ∈ wsX4_become := fun w h => (List.mem_cons_of_mem _ (List.mem_append_right _ h))
  have B18 : ∀ (n : Nat), ∀ (σ : zt_St) (u2 : Int32) (H : Heap) (locs : List Loc) (ls : Array Slot), f_X4_become_18 k0 k1 n σ u2 = some σ1 → va_P (zt_D G) vwCl (zt_ww G σ) H → va_S (zt_A G) s.heap H locs → lv_has ls 3 [(0, .ref (zt_ad G k0)), (1, .ref (zt_ad G k1)), (2, .int u2)] → W p l e (zt_R 1 22) s m ([.ref (zt_ad G k0), .ref (zt_ad G k1)] : List Value).toArray below meth c H locs 0 0 (MQ below (zt_Cv G σ1) ([.ref (zt_ad G k0), .ref (zt_ad G k1)] : List Value).toArray s 0 0 (zt_A G)) (F0 m 18 ls []) := by
    intro n
    induction n with
    | zero => intro σ u2 H locs ls hf; exact nomatch hf
    | succ n hrc18 =>
      intro σ u2 H locs ls hf hP hS hl
      generalize hrcg : f_X4_become_18 k0 k1 n = rc18 at hrc18
      have hf : f_X4_become_18b k0 k1 rc18 σ u2 = some σ1 := by rw [← hrcg]; exact hf
      unfold f_X4_become_18b at hf
      refine lv_iload_n hx hb dX4_become_18 rfl (lv_at hl 2 rfl) ?_
      refine lv_aload_n hx hb dX4_become_19 rfl (lv_at hl 0 rfl) ?_
      refine va_get (D := zt_D G) (ci := 3) (v := .int (σ k0 4)) (C := RX4) (T := TX4) (N := 5) hx hb hts inX4 hown hK hP k0 (zt_a3 hk0) rfl 4 (by decide) fl24 (fun _ h9 => h9) rfl dX4_become_20 ?_
      refine lv_icmp_ge (tgt := 76) hx hb dX4_become_23 (by decide) (fun c2 => ?_) (fun c2 => ?_)
      · have hf := (if_pos c2).symm.trans hf
        exact W.vret hx hb hr (fun t ht hW => ⟨⟨_, rfl, (Option.some.inj hf), zt_go hE hP hS zt_id ht hW⟩, hS.F ht⟩) hS.2.2 dX4_become_76
      · have hf := (if_neg c2).symm.trans hf
        refine lv_aload_n hx hb dX4_become_26 rfl (lv_at hl 0 rfl) ?_
        refine va_get (D := zt_D G) (ci := 3) (v := .ref (zt_ad G (k0 + 1))) (C := RX4) (T := TX4) (N := 5) hx hb hts inX4 hown hK hP k0 (zt_a3 hk0) rfl 0 (by decide) fl9 (fun _ h9 => h9) rfl dX4_become_27 ?_
        refine lv_iload_n hx hb dX4_become_30 rfl (lv_at hl 2 rfl) ?_
        refine lv_aload_n hx hb dX4_become_31 rfl (lv_at hl 1 rfl) ?_
        refine lv_iload_n hx hb dX4_become_32 rfl (lv_at hl 2 rfl) ?_
        obtain ⟨v3, hvv3, hf⟩ := zt_bd_some hf
        refine va_calli (va_runV (As := [.int u2]) (rest := [.int u2, .ref (zt_ad G (k0 + 1))]) ⟨hx, hb, hml, hown, hts⟩ (m_X4_placeAt l G hk1 (σ := σ) hvv3) (cwV 1 hts gX4_become_X4_placeAt rfl rfl rfl zh_X4_placeAt ⟨Nat.le_of_ble_eq_true rfl, Nat.le_of_ble_eq_true rfl⟩) ⟨zt_blind, va_recv hK hP (ci := 3) (q0 := k1) rfl (zt_a3 hk1), fun U hU hW => ⟨rfl, zt_go hE hP hS zt_id hU hW⟩⟩ rfl rfl hl.1 rfl (lv_room (Nat.le_of_ble_eq_true rfl)) dX4_become_33 ⟨Nat.zero_le _, Nat.zero_le _⟩) hS (fun _ _ h => h) (fun _ h => h) (fun r u t H locs ht hvm hw hB _ _ hS => ?_)
        rw [hw.1]; have hB : zt_B G u t := hB; rw [hw.2] at hB; have hP := zt_B.P hB ht
        obtain ⟨g5, hf⟩ := zt_gd_some hf
        obtain ⟨σ6, hσ6, hf⟩ := zt_lt_some hf
        refine va_iast hx hb hK hP (zt_apart hE.1) hS (k0 + 1) 0 (zt_a9 (zt_k3_0 hk0)) rfl (zt_gI_in g5) dX4_become_36 (fun H locs hP _ hS => ?_)
        rw [zt_p9 (zt_k3_0 hk0), ← hσ6] at hP
        refine lv_aload_n hx hb dX4_become_37 rfl (lv_at hl 0 rfl) ?_
        refine va_get (D := zt_D G) (ci := 3) (v := .ref (zt_ad G (k0 + 2))) (C := RX4) (T := TX4) (N := 5) hx hb hts inX4 hown hK hP k0 (zt_a3 hk0) rfl 1 (by decide) fl15 (fun _ h9 => h9) rfl dX4_become_38 ?_
        refine lv_iload_n hx hb dX4_become_41 rfl (lv_at hl 2 rfl) ?_
        refine lv_aload_n hx hb dX4_become_42 rfl (lv_at hl 1 rfl) ?_
        refine lv_iload_n hx hb dX4_become_43 rfl (lv_at hl 2 rfl) ?_
        obtain ⟨v7, hvv7, hf⟩ := zt_bd_some hf
        refine va_calli (va_runV (As := [.int u2]) (rest := [.int u2, .ref (zt_ad G (k0 + 2))]) ⟨hx, hb, hml, hown, hts⟩ (m_X4_sortAt l G hk1 (σ := σ6) hvv7) (cwV 1 hts gX4_become_X4_sortAt rfl rfl rfl zh_X4_sortAt ⟨Nat.le_of_ble_eq_true rfl, Nat.le_of_ble_eq_true rfl⟩) ⟨zt_blind, va_recv hK hP (ci := 3) (q0 := k1) rfl (zt_a3 hk1), fun U hU hW => ⟨rfl, zt_go hE hP hS zt_id hU hW⟩⟩ rfl rfl hl.1 rfl (lv_room (Nat.le_of_ble_eq_true rfl)) dX4_become_44 ⟨Nat.zero_le _, Nat.zero_le _⟩) hS (fun _ _ h => h) (fun _ h => h) (fun r u t H locs ht hvm hw hB _ _ hS => ?_)
        rw [hw.1]; have hB : zt_B G u t := hB; rw [hw.2] at hB; have hP := zt_B.P hB ht
        obtain ⟨g9, hf⟩ := zt_gd_some hf
        obtain ⟨σ10, hσ10, hf⟩ := zt_lt_some hf
        refine va_iast hx hb hK hP (zt_apart hE.1) hS (k0 + 2) 0 (zt_a9 (zt_k3_1 hk0)) rfl (zt_gI_in g9) dX4_become_47 (fun H locs hP _ hS => ?_)
        rw [zt_p9 (zt_k3_1 hk0), ← hσ10] at hP
        refine lv_aload_n hx hb dX4_become_48 rfl (lv_at hl 0 rfl) ?_
        refine va_get (D := zt_D G) (ci := 3) (v := .ref (zt_ad G (k0 + 3))) (C := RX4) (T := TX4) (N := 5) hx hb hts inX4 hown hK hP k0 (zt_a3 hk0) rfl 2 (by decide) fl18 (fun _ h9 => h9) rfl dX4_become_49 ?_
        refine lv_iload_n hx hb dX4_become_52 rfl (lv_at hl 2 rfl) ?_
        refine lv_aload_n hx hb dX4_become_53 rfl (lv_at hl 1 rfl) ?_
        refine lv_iload_n hx hb dX4_become_54 rfl (lv_at hl 2 rfl) ?_
        obtain ⟨v11, hvv11, hf⟩ := zt_bd_some hf
        refine va_calli (va_runV (As := [.int u2]) (rest := [.int u2, .ref (zt_ad G (k0 + 3))]) ⟨hx, hb, hml, hown, hts⟩ (m_X4_numberAt l G hk1 (σ := σ10) hvv11) (cwV 1 hts gX4_become_X4_numberAt rfl rfl rfl zh_X4_numberAt ⟨Nat.le_of_ble_eq_true rfl, Nat.le_of_ble_eq_true rfl⟩) ⟨zt_blind, va_recv hK hP (ci := 3) (q0 := k1) rfl (zt_a3 hk1), fun U hU hW => ⟨rfl, zt_go hE hP hS zt_id hU hW⟩⟩ rfl rfl hl.1 rfl (lv_room (Nat.le_of_ble_eq_true rfl)) dX4_become_55 ⟨Nat.zero_le _, Nat.zero_le _⟩) hS (fun _ _ h => h) (fun _ h => h) (fun r u t H locs ht hvm hw hB _ _ hS => ?_)
        rw [hw.1]; have hB : zt_B G u t := hB; rw [hw.2] at hB; have hP := zt_B.P hB ht
        obtain ⟨g13, hf⟩ := zt_gd_some hf
        obtain ⟨σ14, hσ14, hf⟩ := zt_lt_some hf
        refine va_iast hx hb hK hP (zt_apart hE.1) hS (k0 + 3) 0 (zt_a9 (zt_k3_2 hk0)) rfl (zt_gI_in g13) dX4_become_58 (fun H locs hP _ hS => ?_)
        rw [zt_p9 (zt_k3_2 hk0), ← hσ14] at hP
        refine lv_aload_n hx hb dX4_become_59 rfl (lv_at hl 0 rfl) ?_
        refine va_get (D := zt_D G) (ci := 3) (v := .ref (zt_ad G (k0 + 4))) (C := RX4) (T := TX4) (N := 5) hx hb hts inX4 hown hK hP k0 (zt_a3 hk0) rfl 3 (by decide) fl21 (fun _ h9 => h9) rfl dX4_become_60 ?_
        refine lv_iload_n hx hb dX4_become_63 rfl (lv_at hl 2 rfl) ?_
        refine lv_aload_n hx hb dX4_become_64 rfl (lv_at hl 1 rfl) ?_
        refine lv_iload_n hx hb dX4_become_65 rfl (lv_at hl 2 rfl) ?_
        obtain ⟨v15, hvv15, hf⟩ := zt_bd_some hf
        refine va_calli (va_runV (As := [.int u2]) (rest := [.int u2, .ref (zt_ad G (k0 + 4))]) ⟨hx, hb, hml, hown, hts⟩ (m_X4_lifeAt l G hk1 (σ := σ14) hvv15) (cwV 1 hts gX4_become_X4_lifeAt rfl rfl rfl zh_X4_lifeAt ⟨Nat.le_of_ble_eq_true rfl, Nat.le_of_ble_eq_true rfl⟩) ⟨zt_blind, va_recv hK hP (ci := 3) (q0 := k1) rfl (zt_a3 hk1), fun U hU hW => ⟨rfl, zt_go hE hP hS zt_id hU hW⟩⟩ rfl rfl hl.1 rfl (lv_room (Nat.le_of_ble_eq_true rfl)) dX4_become_66 ⟨Nat.zero_le _, Nat.zero_le _⟩) hS (fun _ _ h => h) (fun _ h => h) (fun r u t H locs ht hvm hw hB _ _ hS => ?_)
        rw [hw.1]; have hB : zt_B G u t := hB; rw [hw.2] at hB; have hP := zt_B.P hB ht
        obtain ⟨g17, hf⟩ := zt_gd_some hf
        obtain ⟨σ18, hσ18, hf⟩ := zt_lt_some hf
        refine va_iast hx hb hK hP (zt_apart hE.1) hS (k0 + 4) 0 (zt_a9 (zt_k3_3 hk0)) rfl (zt_gI_in g17) dX4_become_69 (fun H locs hP _ hS => ?_)
        rw [zt_p9 (zt_k3_3 hk0), ← hσ18] at hP
        refine lv_iinc (v := (u2 + 1)) (lv' := [(2, .int (u2 + 1)), (0, .ref (zt_ad G k0)), (1, .ref (zt_ad G k1))]) hx hb dX4_become_70 hl (k := 2) rfl rfl (by decide) rfl (fun ls hl => ?_)
        refine lv_goto (tgt := 18) hx hb dX4_become_73 (by decide) ?_
        exact hrc18 σ18 (u2 + 1) _ _ _ hf hP hS (lv_sub hl [1, 2, 0] rfl)
  unfold f_X4_become at hf
  refine lv_aload_n hx hb dX4_become_0 rfl (lv_at hl 0 rfl) ?_
  refine lv_aload_n hx hb dX4_become_1 rfl (lv_at hl 1 rfl) ?_
  refine va_get (D := zt_D G) (ci := 3) (v := .int (σ k1 4)) (C := RX4) (T := TX4) (N := 5) hx hb hts inX4 hown hK hP k1 (zt_a3 hk1) rfl 4 (by decide) fl24 (fun _ h9 => h9) rfl dX4_become_2 ?_
  refine lv_aload_n hx hb dX4_become_5 rfl (lv_at hl 0 rfl) ?_
  refine va_get (D := zt_D G) (ci := 3) (v := .ref (zt_ad G (k0 + 1))) (C := RX4) (T := TX4) (N := 5) hx hb hts inX4 hown hK hP k0 (zt_a3 hk0) rfl 0 (by decide) fl9 (fun _ h9 => h9) rfl dX4_become_6 ?_
  refine va_alen hx hb hK hP (k0 + 1) 0 (zt_a9 (zt_k3_0 hk0)) rfl (v := Int32.ofNat (zt_ln (k0 + 1))) rfl dX4_become_9 ?_
  refine va_mmin hx hb (hml.trans hl.1.symm) hown (hts (.methodLink RX4 57 Lib.Math.min.name) (List.mem_cons_of_mem _ (List.mem_append_left _ (List.mem_append_left _ (List.mem_of_getElem? (i := 2) rfl))))) (hts (.static Lib.Math.min.name) (List.mem_cons_of_mem _ (List.mem_append_left _ (List.mem_append_left _ (List.mem_of_getElem? (i := 3) rfl))))) (hts (.initialized "java/lang/Math") (List.mem_cons_of_mem _ (List.mem_append_left _ (List.mem_append_left _ (List.mem_of_getElem? (i := 4) rfl))))) (hts (.code Lib.Math.min.name Lib.Math.min.code 2 (some .int)) (List.mem_cons_of_mem _ (List.mem_append_left _ (List.mem_append_left _ (List.mem_of_getElem? (i := 5) rfl))))) (Nat.le_of_ble_eq_true rfl) (Nat.le_of_ble_eq_true rfl) (Nat.zero_le _) (Nat.zero_le _) dX4_become_10 ?_
  obtain ⟨σ1, hσ1, hf⟩ := zt_lt_some hf
  refine va_put (D := zt_D G) (ci := 3) (v := .int (if (Int32.ofNat (zt_ln (k0 + 1))) < (σ k1 4) then (Int32.ofNat (zt_ln (k0 + 1))) else (σ k1 4))) (ty := .int) (C := RX4) (T := TX4) (N := 5) hx hb hts inX4 tyX4 tyX4_ok nmX4 hown hK hP (zt_apart hE.1) hS k0 (zt_a3 hk0) rfl 4 (by decide) fl24 (fun _ h9 => h9) rfl (tyX4_ok 4 (by decide)) rfl rfl (Nat.le_of_ble_eq_true rfl) dX4_become_13 (fun H locs hP _ hS => ?_)
  rw [zt_p3_4 hk0, ← hσ1] at hP
  refine lv_iconst (v := 0) hx hb dX4_become_16 (by decide) ?_
  refine lv_istore_n (lv' := [(2, .int 0), (0, .ref (zt_ad G k0)), (1, .ref (zt_ad G k1))]) hx hb dX4_become_17 rfl hl (by decide) rfl (fun ls hl => ?_)
  exact B18 zt_FU σ1 0 _ _ _ hf hP hS (lv_sub hl [1, 2, 0] rfl)

theorem zh_X4_rowOf : yX4_rowOf.cls = RX4 ∧ yX4_rowOf.cls ≠ "java/lang/invoke/MethodHandle" ∧ yX4_rowOf.cls ≠ "java/lang/invoke/VarHandle" ∧ (parseMethodDescriptor yX4_rowOf.desc).map (fun d => d.parameters.length) = some 2 := by decide +kernel
set_option maxHeartbeats 4000000 in
set_option maxRecDepth 100000 in
theorem m_X4_rowOf (l : Launch) (G : zt_G) {σ : zt_St} {k0 : Nat} (hk0 : zt_kd k0 = 3) {x1 : Int32} {x2 : Int32} {r : Int32} (hf : f_X4_rowOf σ k0 x1 x2 = some r) : zt_Mi l G yX4_rowOf wsX4_rowOf 0 0 [.ref (zt_ad G k0), .int x1, .int x2] σ r σ := by
  refine Met.ofW (cc := cX4_rowOf) (maxL := 4) (ret := (some .int)) (by decide) rfl ?_
  intro p e s m args below meth c s₁ B hml hv
  obtain ⟨rfl, hBB⟩ := hv
  have hE := zt_B.env hBB; have hK := hE.2.1; have hP := hBB.2.1
  have hx := B.exec; have hb := B.bytes; have hr := B.returns; have hts := atoms_spec (ws := wsX4_rowOf) B.pre
  have hown : s.vm.findClass RX4 = some m.cls := findClass_of_methodNamed B.named
  have hlocks := B.notSynchronized
  have hS : va_S (zt_A G) s.heap s.heap [] := va_S.rf
  have hl := lv_entry ([.ref (zt_ad G k0), .int x1, .int x2]) (n := 4) (Nat.le_of_ble_eq_true rfl)
  rw [lg_entry_eq]
  generalize (lg_sl ([.ref (zt_ad G k0), .int x1, .int x2]) ++ List.replicate (4 - (lg_sl ([.ref (zt_ad G k0), .int x1, .int x2])).length) Slot.unset).toArray = ls at hl ⊢
  have hl : lv_has ls 4 [(0, .ref (zt_ad G k0)), (1, .int x1), (2, .int x2)] := hl
  show W p l e (zt_R 0 0) s m ([.ref (zt_ad G k0), .int x1, .int x2] : List Value).toArray below meth c s.heap [] 0 0 (MQ below (zt_Ci G r σ) ([.ref (zt_ad G k0), .int x1, .int x2] : List Value).toArray s 0 0 (zt_A G)) (F0 m 0 ls [])
  have fl9 := hts (.fieldLink RX4 9 "ZoneTree$Records" "places" "[I") (List.mem_cons_of_mem _ (List.mem_append_left _ (List.mem_of_getElem? (i := 1) rfl)))
  have fl15 := hts (.fieldLink RX4 15 "ZoneTree$Records" "sorts" "[I") (List.mem_cons_of_mem _ (List.mem_append_left _ (List.mem_of_getElem? (i := 2) rfl)))
  have fl24 := hts (.fieldLink RX4 24 "ZoneTree$Records" "count" "I") (List.mem_cons_of_mem _ (List.mem_append_left _ (List.mem_of_getElem? (i := 0) rfl)))
  have inX4 : ∀ w ∈ wsX40, w ∈ wsX4_rowOf := fun w h => (List.mem_cons_of_mem _ (List.mem_append_right _ h))
  have B41 : ∀ (rc2 : Int32 → Int32 → Int32 → Option (Int32)) (hrc2 : ∀ (u1 : Int32) (u2 : Int32) (u3 : Int32) (H : Heap) (locs : List Loc) (ls : Array Slot), rc2 u1 u2 u3 = some r → va_P (zt_D G) vwCl (zt_ww G σ) H → va_S (zt_A G) s.heap H locs → lv_has ls 4 [(0, .ref (zt_ad G k0)), (1, .int u1), (2, .int u2), (3, .int u3)] → W p l e (zt_R 0 0) s m ([.ref (zt_ad G k0), .int x1, .int x2] : List Value).toArray below meth c H locs 0 0 (MQ below (zt_Ci G r σ) ([.ref (zt_ad G k0), .int x1, .int x2] : List Value).toArray s 0 0 (zt_A G)) (F0 m 2 ls [])), ∀ (u1 : Int32) (u2 : Int32) (u3 : Int32) (H : Heap) (locs : List Loc) (ls : Array Slot), f_X4_rowOf_41 σ k0 rc2 u1 u2 u3 = some r → va_P (zt_D G) vwCl (zt_ww G σ) H → va_S (zt_A G) s.heap H locs → lv_has ls 4 [(0, .ref (zt_ad G k0)), (1, .int u1), (2, .int u2), (3, .int u3)] → W p l e (zt_R 0 0) s m ([.ref (zt_ad G k0), .int x1, .int x2] : List Value).toArray below meth c H locs 0 0 (MQ below (zt_Ci G r σ) ([.ref (zt_ad G k0), .int x1, .int x2] : List Value).toArray s 0 0 (zt_A G)) (F0 m 41 ls []) := by
    intro rc2 hrc2 u1 u2 u3 H locs ls hf hP hS hl
    unfold f_X4_rowOf_41 at hf
    refine lv_iinc (v := (u3 + 1)) (lv' := [(3, .int (u3 + 1)), (0, .ref (zt_ad G k0)), (1, .int u1), (2, .int u2)]) hx hb dX4_rowOf_41 hl (k := 3) rfl rfl (by decide) rfl (fun ls hl => ?_)
    refine lv_goto (tgt := 2) hx hb dX4_rowOf_44 (by decide) ?_
    exact hrc2 u1 u2 (u3 + 1) _ _ _ hf hP hS (lv_sub hl [1, 2, 3, 0] rfl)
  have B2 : ∀ (n : Nat), ∀ (u1 : Int32) (u2 : Int32) (u3 : Int32) (H : Heap) (locs : List Loc) (ls : Array Slot), f_X4_rowOf_2 σ k0 n u1 u2 u3 = some r → va_P (zt_D G) vwCl (zt_ww G σ) H → va_S (zt_A G) s.heap H locs → lv_has ls 4 [(0, .ref (zt_ad G k0)), (1, .int u1), (2, .int u2), (3, .int u3)] → W p l e (zt_R 0 0) s m ([.ref (zt_ad G k0), .int x1, .int x2] : List Value).toArray below meth c H locs 0 0 (MQ below (zt_Ci G r σ) ([.ref (zt_ad G k0), .int x1, .int x2] : List Value).toArray s 0 0 (zt_A G)) (F0 m 2 ls []) := by
    intro n
    induction n with
    | zero => intro u1 u2 u3 H locs ls hf; exact nomatch hf
    | succ n hrc2 =>
      intro u1 u2 u3 H locs ls hf hP hS hl
      generalize hrcg : f_X4_rowOf_2 σ k0 n = rc2 at hrc2
      have hf : f_X4_rowOf_2b σ k0 rc2 u1 u2 u3 = some r := by rw [← hrcg]; exact hf
      unfold f_X4_rowOf_2b at hf
      refine lv_iload_n hx hb dX4_rowOf_2 rfl (lv_at hl 3 rfl) ?_
      refine lv_aload_n hx hb dX4_rowOf_3 rfl (lv_at hl 0 rfl) ?_
      refine va_get (D := zt_D G) (ci := 3) (v := .int (σ k0 4)) (C := RX4) (T := TX4) (N := 5) hx hb hts inX4 hown hK hP k0 (zt_a3 hk0) rfl 4 (by decide) fl24 (fun _ h9 => h9) rfl dX4_rowOf_4 ?_
      refine lv_icmp_ge (tgt := 47) hx hb dX4_rowOf_7 (by decide) (fun c1 => ?_) (fun c1 => ?_)
      · have hf := (if_pos c1).symm.trans hf
        refine lv_iconst (v := (-1)) hx hb dX4_rowOf_47 (by decide) ?_
        exact W.iret hx hb hr (fun t ht hW => ⟨⟨_, _, rfl, ⟨Option.some.inj hf, rfl⟩, zt_go hE hP hS zt_id ht hW⟩, hS.F ht⟩) hS.2.2 dX4_rowOf_48
      · have hf := (if_neg c1).symm.trans hf
        refine lv_iload_n hx hb dX4_rowOf_10 rfl (lv_at hl 3 rfl) ?_
        refine lv_aload_n hx hb dX4_rowOf_11 rfl (lv_at hl 0 rfl) ?_
        refine va_get (D := zt_D G) (ci := 3) (v := .ref (zt_ad G (k0 + 1))) (C := RX4) (T := TX4) (N := 5) hx hb hts inX4 hown hK hP k0 (zt_a3 hk0) rfl 0 (by decide) fl9 (fun _ h9 => h9) rfl dX4_rowOf_12 ?_
        refine va_alen hx hb hK hP (k0 + 1) 0 (zt_a9 (zt_k3_0 hk0)) rfl (v := Int32.ofNat (zt_ln (k0 + 1))) rfl dX4_rowOf_15 ?_
        refine lv_icmp_ge (tgt := 47) hx hb dX4_rowOf_16 (by decide) (fun c2 => ?_) (fun c2 => ?_)
        · have hf := (if_pos c2).symm.trans hf
          refine lv_iconst (v := (-1)) hx hb dX4_rowOf_47 (by decide) ?_
          exact W.iret hx hb hr (fun t ht hW => ⟨⟨_, _, rfl, ⟨Option.some.inj hf, rfl⟩, zt_go hE hP hS zt_id ht hW⟩, hS.F ht⟩) hS.2.2 dX4_rowOf_48
        · have hf := (if_neg c2).symm.trans hf
          refine lv_aload_n hx hb dX4_rowOf_19 rfl (lv_at hl 0 rfl) ?_
          refine va_get (D := zt_D G) (ci := 3) (v := .ref (zt_ad G (k0 + 1))) (C := RX4) (T := TX4) (N := 5) hx hb hts inX4 hown hK hP k0 (zt_a3 hk0) rfl 0 (by decide) fl9 (fun _ h9 => h9) rfl dX4_rowOf_20 ?_
          refine lv_iload_n hx hb dX4_rowOf_23 rfl (lv_at hl 3 rfl) ?_
          obtain ⟨g3, hf⟩ := zt_gd_some hf
          refine va_iald hx hb hK hP (k0 + 1) 0 (zt_a9 (zt_k3_0 hk0)) rfl (zt_gI_in g3) dX4_rowOf_24 ?_
          refine lv_iload_n hx hb dX4_rowOf_25 rfl (lv_at hl 1 rfl) ?_
          refine lv_icmp_ne (tgt := 41) hx hb dX4_rowOf_26 (by decide) (fun c4 => ?_) (fun c4 => ?_)
          · have hf := (if_neg c4).symm.trans hf
            exact B41 rc2 hrc2 u1 u2 u3 _ _ _ hf hP hS (lv_sub hl [0, 1, 2, 3] rfl)
          · have hf := (if_pos c4).symm.trans hf
            refine lv_aload_n hx hb dX4_rowOf_29 rfl (lv_at hl 0 rfl) ?_
            refine va_get (D := zt_D G) (ci := 3) (v := .ref (zt_ad G (k0 + 2))) (C := RX4) (T := TX4) (N := 5) hx hb hts inX4 hown hK hP k0 (zt_a3 hk0) rfl 1 (by decide) fl15 (fun _ h9 => h9) rfl dX4_rowOf_30 ?_
            refine lv_iload_n hx hb dX4_rowOf_33 rfl (lv_at hl 3 rfl) ?_
            obtain ⟨g5, hf⟩ := zt_gd_some hf
            refine va_iald hx hb hK hP (k0 + 2) 0 (zt_a9 (zt_k3_1 hk0)) rfl (zt_gI_in g5) dX4_rowOf_34 ?_
            refine lv_iload_n hx hb dX4_rowOf_35 rfl (lv_at hl 2 rfl) ?_
            refine lv_icmp_ne (tgt := 41) hx hb dX4_rowOf_36 (by decide) (fun c6 => ?_) (fun c6 => ?_)
            · have hf := (if_neg c6).symm.trans hf
              exact B41 rc2 hrc2 u1 u2 u3 _ _ _ hf hP hS (lv_sub hl [0, 1, 2, 3] rfl)
            · have hf := (if_pos c6).symm.trans hf
              refine lv_iload_n hx hb dX4_rowOf_39 rfl (lv_at hl 3 rfl) ?_
              exact W.iret hx hb hr (fun t ht hW => ⟨⟨_, _, rfl, ⟨Option.some.inj hf, rfl⟩, zt_go hE hP hS zt_id ht hW⟩, hS.F ht⟩) hS.2.2 dX4_rowOf_40
  unfold f_X4_rowOf at hf
  refine lv_iconst (v := 0) hx hb dX4_rowOf_0 (by decide) ?_
  refine lv_istore_n (lv' := [(3, .int 0), (0, .ref (zt_ad G k0)), (1, .int x1), (2, .int x2)]) hx hb dX4_rowOf_1 rfl hl (by decide) rfl (fun ls hl => ?_)
  exact B2 zt_FU x1 x2 0 _ _ _ hf hP hS (lv_sub hl [1, 2, 3, 0] rfl)

theorem zh_X4_set : yX4_set.cls = RX4 ∧ yX4_set.cls ≠ "java/lang/invoke/MethodHandle" ∧ yX4_set.cls ≠ "java/lang/invoke/VarHandle" ∧ (parseMethodDescriptor yX4_set.desc).map (fun d => d.parameters.length) = some 4 := by decide +kernel
set_option maxHeartbeats 4000000 in
set_option maxRecDepth 100000 in
theorem m_X4_set (l : Launch) (G : zt_G) {σ : zt_St} {k0 : Nat} (hk0 : zt_kd k0 = 3) {x1 : Int32} {x2 : Int32} {x3 : Int32} {x4 : Int32} {σ1 : zt_St} (hf : f_X4_set σ k0 x1 x2 x3 x4 = some σ1) : zt_Mv l G yX4_set wsX4_set 1 23 [.ref (zt_ad G k0), .int x1, .int x2, .int x3, .int x4] σ σ1 := by
  refine Met.ofW (cc := cX4_set) (maxL := 6) (ret := none) (by decide) rfl ?_
  intro p e s m args below meth c s₁ B hml hv
  obtain ⟨rfl, hBB⟩ := hv
  have hE := zt_B.env hBB; have hK := hE.2.1; have hP := hBB.2.1
  have hx := B.exec; have hb := B.bytes; have hr := B.returns; have hts := atoms_spec (ws := wsX4_set) B.pre
  have hown : s.vm.findClass RX4 = some m.cls := findClass_of_methodNamed B.named
  have hlocks := B.notSynchronized
  have hS : va_S (zt_A G) s.heap s.heap [] := va_S.rf
  have hl := lv_entry ([.ref (zt_ad G k0), .int x1, .int x2, .int x3, .int x4]) (n := 6) (Nat.le_of_ble_eq_true rfl)
  rw [lg_entry_eq]
  generalize (lg_sl ([.ref (zt_ad G k0), .int x1, .int x2, .int x3, .int x4]) ++ List.replicate (6 - (lg_sl ([.ref (zt_ad G k0), .int x1, .int x2, .int x3, .int x4])).length) Slot.unset).toArray = ls at hl ⊢
  have hl : lv_has ls 6 [(0, .ref (zt_ad G k0)), (1, .int x1), (2, .int x2), (3, .int x3), (4, .int x4)] := hl
  show W p l e (zt_R 1 23) s m ([.ref (zt_ad G k0), .int x1, .int x2, .int x3, .int x4] : List Value).toArray below meth c s.heap [] 0 0 (MQ below (zt_Cv G σ1) ([.ref (zt_ad G k0), .int x1, .int x2, .int x3, .int x4] : List Value).toArray s 0 0 (zt_A G)) (F0 m 0 ls [])
  have fl9 := hts (.fieldLink RX4 9 "ZoneTree$Records" "places" "[I") (List.mem_cons_of_mem _ (List.mem_append_left _ (List.mem_of_getElem? (i := 1) rfl)))
  have fl15 := hts (.fieldLink RX4 15 "ZoneTree$Records" "sorts" "[I") (List.mem_cons_of_mem _ (List.mem_append_left _ (List.mem_of_getElem? (i := 2) rfl)))
  have fl18 := hts (.fieldLink RX4 18 "ZoneTree$Records" "numbers" "[I") (List.mem_cons_of_mem _ (List.mem_append_left _ (List.mem_of_getElem? (i := 3) rfl)))
  have fl21 := hts (.fieldLink RX4 21 "ZoneTree$Records" "lives" "[I") (List.mem_cons_of_mem _ (List.mem_append_left _ (List.mem_of_getElem? (i := 4) rfl)))
  have fl24 := hts (.fieldLink RX4 24 "ZoneTree$Records" "count" "I") (List.mem_cons_of_mem _ (List.mem_append_left _ (List.mem_of_getElem? (i := 0) rfl)))
  have inX4 : ∀ w ∈ wsX40, w ∈ wsX4_set := fun w h => (List.mem_cons_of_mem _ (List.mem_append_right _ h))
  have B42 : ∀ (σ : zt_St) (u1 : Int32) (u2 : Int32) (u3 : Int32) (u4 : Int32) (u5 : Int32) (H : Heap) (locs : List Loc) (ls : Array Slot), f_X4_set_42 k0 σ u1 u2 u3 u4 u5 = some σ1 → va_P (zt_D G) vwCl (zt_ww G σ) H → va_S (zt_A G) s.heap H locs → lv_has ls 6 [(0, .ref (zt_ad G k0)), (1, .int u1), (2, .int u2), (3, .int u3), (4, .int u4), (5, .int u5)] → W p l e (zt_R 1 23) s m ([.ref (zt_ad G k0), .int x1, .int x2, .int x3, .int x4] : List Value).toArray below meth c H locs 0 0 (MQ below (zt_Cv G σ1) ([.ref (zt_ad G k0), .int x1, .int x2, .int x3, .int x4] : List Value).toArray s 0 0 (zt_A G)) (F0 m 42 ls []) := by
    intro σ u1 u2 u3 u4 u5 H locs ls hf hP hS hl
    unfold f_X4_set_42 at hf
    refine lv_iload hx hb dX4_set_42 (lv_at hl 5 rfl) ?_
    refine lv_if_lt (tgt := 90) hx hb dX4_set_44 (by decide) (fun c6 => ?_) (fun c6 => ?_)
    · have hf := (if_pos c6).symm.trans hf
      exact W.vret hx hb hr (fun t ht hW => ⟨⟨_, rfl, (Option.some.inj hf), zt_go hE hP hS zt_id ht hW⟩, hS.F ht⟩) hS.2.2 dX4_set_90
    · have hf := (if_neg c6).symm.trans hf
      refine lv_iload hx hb dX4_set_47 (lv_at hl 5 rfl) ?_
      refine lv_aload_n hx hb dX4_set_49 rfl (lv_at hl 0 rfl) ?_
      refine va_get (D := zt_D G) (ci := 3) (v := .ref (zt_ad G (k0 + 1))) (C := RX4) (T := TX4) (N := 5) hx hb hts inX4 hown hK hP k0 (zt_a3 hk0) rfl 0 (by decide) fl9 (fun _ h9 => h9) rfl dX4_set_50 ?_
      refine va_alen hx hb hK hP (k0 + 1) 0 (zt_a9 (zt_k3_0 hk0)) rfl (v := Int32.ofNat (zt_ln (k0 + 1))) rfl dX4_set_53 ?_
      refine lv_icmp_ge (tgt := 90) hx hb dX4_set_54 (by decide) (fun c7 => ?_) (fun c7 => ?_)
      · have hf := (if_pos c7).symm.trans hf
        exact W.vret hx hb hr (fun t ht hW => ⟨⟨_, rfl, (Option.some.inj hf), zt_go hE hP hS zt_id ht hW⟩, hS.F ht⟩) hS.2.2 dX4_set_90
      · have hf := (if_neg c7).symm.trans hf
        refine lv_aload_n hx hb dX4_set_57 rfl (lv_at hl 0 rfl) ?_
        refine va_get (D := zt_D G) (ci := 3) (v := .ref (zt_ad G (k0 + 1))) (C := RX4) (T := TX4) (N := 5) hx hb hts inX4 hown hK hP k0 (zt_a3 hk0) rfl 0 (by decide) fl9 (fun _ h9 => h9) rfl dX4_set_58 ?_
        refine lv_iload hx hb dX4_set_61 (lv_at hl 5 rfl) ?_
        refine lv_iload_n hx hb dX4_set_63 rfl (lv_at hl 1 rfl) ?_
        obtain ⟨g8, hf⟩ := zt_gd_some hf
        obtain ⟨σ9, hσ9, hf⟩ := zt_lt_some hf
        refine va_iast hx hb hK hP (zt_apart hE.1) hS (k0 + 1) 0 (zt_a9 (zt_k3_0 hk0)) rfl (zt_gI_in g8) dX4_set_64 (fun H locs hP _ hS => ?_)
        rw [zt_p9 (zt_k3_0 hk0), ← hσ9] at hP
        refine lv_aload_n hx hb dX4_set_65 rfl (lv_at hl 0 rfl) ?_
        refine va_get (D := zt_D G) (ci := 3) (v := .ref (zt_ad G (k0 + 2))) (C := RX4) (T := TX4) (N := 5) hx hb hts inX4 hown hK hP k0 (zt_a3 hk0) rfl 1 (by decide) fl15 (fun _ h9 => h9) rfl dX4_set_66 ?_
        refine lv_iload hx hb dX4_set_69 (lv_at hl 5 rfl) ?_
        refine lv_iload_n hx hb dX4_set_71 rfl (lv_at hl 2 rfl) ?_
        obtain ⟨g10, hf⟩ := zt_gd_some hf
        obtain ⟨σ11, hσ11, hf⟩ := zt_lt_some hf
        refine va_iast hx hb hK hP (zt_apart hE.1) hS (k0 + 2) 0 (zt_a9 (zt_k3_1 hk0)) rfl (zt_gI_in g10) dX4_set_72 (fun H locs hP _ hS => ?_)
        rw [zt_p9 (zt_k3_1 hk0), ← hσ11] at hP
        refine lv_aload_n hx hb dX4_set_73 rfl (lv_at hl 0 rfl) ?_
        refine va_get (D := zt_D G) (ci := 3) (v := .ref (zt_ad G (k0 + 3))) (C := RX4) (T := TX4) (N := 5) hx hb hts inX4 hown hK hP k0 (zt_a3 hk0) rfl 2 (by decide) fl18 (fun _ h9 => h9) rfl dX4_set_74 ?_
        refine lv_iload hx hb dX4_set_77 (lv_at hl 5 rfl) ?_
        refine lv_iload_n hx hb dX4_set_79 rfl (lv_at hl 3 rfl) ?_
        obtain ⟨g12, hf⟩ := zt_gd_some hf
        obtain ⟨σ13, hσ13, hf⟩ := zt_lt_some hf
        refine va_iast hx hb hK hP (zt_apart hE.1) hS (k0 + 3) 0 (zt_a9 (zt_k3_2 hk0)) rfl (zt_gI_in g12) dX4_set_80 (fun H locs hP _ hS => ?_)
        rw [zt_p9 (zt_k3_2 hk0), ← hσ13] at hP
        refine lv_aload_n hx hb dX4_set_81 rfl (lv_at hl 0 rfl) ?_
        refine va_get (D := zt_D G) (ci := 3) (v := .ref (zt_ad G (k0 + 4))) (C := RX4) (T := TX4) (N := 5) hx hb hts inX4 hown hK hP k0 (zt_a3 hk0) rfl 3 (by decide) fl21 (fun _ h9 => h9) rfl dX4_set_82 ?_
        refine lv_iload hx hb dX4_set_85 (lv_at hl 5 rfl) ?_
        refine lv_iload hx hb dX4_set_87 (lv_at hl 4 rfl) ?_
        obtain ⟨g14, hf⟩ := zt_gd_some hf
        obtain ⟨σ15, hσ15, hf⟩ := zt_lt_some hf
        refine va_iast hx hb hK hP (zt_apart hE.1) hS (k0 + 4) 0 (zt_a9 (zt_k3_3 hk0)) rfl (zt_gI_in g14) dX4_set_89 (fun H locs hP _ hS => ?_)
        rw [zt_p9 (zt_k3_3 hk0), ← hσ15] at hP
        exact W.vret hx hb hr (fun t ht hW => ⟨⟨_, rfl, (Option.some.inj hf), zt_go hE hP hS zt_id ht hW⟩, hS.F ht⟩) hS.2.2 dX4_set_90
  unfold f_X4_set at hf
  refine lv_aload_n hx hb dX4_set_0 rfl (lv_at hl 0 rfl) ?_
  refine lv_iload_n hx hb dX4_set_1 rfl (lv_at hl 1 rfl) ?_
  refine lv_iload_n hx hb dX4_set_2 rfl (lv_at hl 2 rfl) ?_
  obtain ⟨v1, hvv1, hf⟩ := zt_bd_some hf
  refine va_calli (va_runV (As := [.int x1, .int x2]) (rest := []) ⟨hx, hb, hml, hown, hts⟩ (m_X4_rowOf l G hk0 (σ := σ) hvv1) (cwV 2 hts gX4_set_X4_rowOf rfl rfl rfl zh_X4_rowOf ⟨Nat.le_of_ble_eq_true rfl, Nat.le_of_ble_eq_true rfl⟩) ⟨zt_blind, va_recv hK hP (ci := 3) (q0 := k0) rfl (zt_a3 hk0), fun U hU hW => ⟨rfl, zt_go hE hP hS zt_id hU hW⟩⟩ rfl rfl hl.1 rfl (lv_room (Nat.le_of_ble_eq_true rfl)) dX4_set_3 ⟨Nat.zero_le _, Nat.zero_le _⟩) hS (fun _ _ h => h) (fun _ h => h) (fun r u t H locs ht hvm hw hB _ _ hS => ?_)
  rw [hw.1]; have hB : zt_B G u t := hB; rw [hw.2] at hB; have hP := zt_B.P hB ht
  refine lv_istore (lv' := [(5, .int v1), (0, .ref (zt_ad G k0)), (1, .int x1), (2, .int x2), (3, .int x3), (4, .int x4)]) hx hb dX4_set_6 hl (by decide) rfl (fun ls hl => ?_)
  refine lv_iload hx hb dX4_set_8 (lv_at hl 0 rfl) ?_
  refine lv_iconst (v := (-1)) hx hb dX4_set_10 (by decide) ?_
  refine lv_icmp_ne (tgt := 42) hx hb dX4_set_11 (by decide) (fun c3 => ?_) (fun c3 => ?_)
  · have hf := (if_neg c3).symm.trans hf
    exact B42 σ x1 x2 x3 x4 v1 _ _ _ hf hP hS (lv_sub hl [1, 2, 3, 4, 5, 0] rfl)
  · have hf := (if_pos c3).symm.trans hf
    refine lv_aload_n hx hb dX4_set_14 rfl (lv_at hl 1 rfl) ?_
    refine va_get (D := zt_D G) (ci := 3) (v := .int (σ k0 4)) (C := RX4) (T := TX4) (N := 5) hx hb hts inX4 hown hK hP k0 (zt_a3 hk0) rfl 4 (by decide) fl24 (fun _ h9 => h9) rfl dX4_set_15 ?_
    refine lv_aload_n hx hb dX4_set_18 rfl (lv_at hl 1 rfl) ?_
    refine va_get (D := zt_D G) (ci := 3) (v := .ref (zt_ad G (k0 + 1))) (C := RX4) (T := TX4) (N := 5) hx hb hts inX4 hown hK hP k0 (zt_a3 hk0) rfl 0 (by decide) fl9 (fun _ h9 => h9) rfl dX4_set_19 ?_
    refine va_alen hx hb hK hP (k0 + 1) 0 (zt_a9 (zt_k3_0 hk0)) rfl (v := Int32.ofNat (zt_ln (k0 + 1))) rfl dX4_set_22 ?_
    refine lv_icmp_ge (tgt := 42) hx hb dX4_set_23 (by decide) (fun c4 => ?_) (fun c4 => ?_)
    · have hf := (if_pos c4).symm.trans hf
      exact B42 σ x1 x2 x3 x4 v1 _ _ _ hf hP hS (lv_sub hl [1, 2, 3, 4, 5, 0] rfl)
    · have hf := (if_neg c4).symm.trans hf
      refine lv_aload_n hx hb dX4_set_26 rfl (lv_at hl 1 rfl) ?_
      refine va_get (D := zt_D G) (ci := 3) (v := .int (σ k0 4)) (C := RX4) (T := TX4) (N := 5) hx hb hts inX4 hown hK hP k0 (zt_a3 hk0) rfl 4 (by decide) fl24 (fun _ h9 => h9) rfl dX4_set_27 ?_
      refine lv_istore (lv' := [(5, .int (σ k0 4)), (0, .ref (zt_ad G k0)), (1, .int x1), (2, .int x2), (3, .int x3), (4, .int x4)]) hx hb dX4_set_30 hl (by decide) rfl (fun ls hl => ?_)
      refine lv_aload_n hx hb dX4_set_32 rfl (lv_at hl 1 rfl) ?_
      refine lv_dup hx hb dX4_set_33 rfl ?_
      refine va_get (D := zt_D G) (ci := 3) (v := .int (σ k0 4)) (C := RX4) (T := TX4) (N := 5) hx hb hts inX4 hown hK hP k0 (zt_a3 hk0) rfl 4 (by decide) fl24 (fun _ h9 => h9) rfl dX4_set_34 ?_
      refine lv_iconst (v := 1) hx hb dX4_set_37 (by decide) ?_
      refine lv_iadd hx hb dX4_set_38 ?_
      obtain ⟨σ5, hσ5, hf⟩ := zt_lt_some hf
      refine va_put (D := zt_D G) (ci := 3) (v := .int ((σ k0 4) + 1)) (ty := .int) (C := RX4) (T := TX4) (N := 5) hx hb hts inX4 tyX4 tyX4_ok nmX4 hown hK hP (zt_apart hE.1) hS k0 (zt_a3 hk0) rfl 4 (by decide) fl24 (fun _ h9 => h9) rfl (tyX4_ok 4 (by decide)) rfl rfl (Nat.le_of_ble_eq_true rfl) dX4_set_39 (fun H locs hP _ hS => ?_)
      rw [zt_p3_4 hk0, ← hσ5] at hP
      exact B42 σ5 x1 x2 x3 x4 (σ k0 4) _ _ _ hf hP hS (lv_sub hl [1, 2, 3, 4, 5, 0] rfl)

theorem zh_X4_remove : yX4_remove.cls = RX4 ∧ yX4_remove.cls ≠ "java/lang/invoke/MethodHandle" ∧ yX4_remove.cls ≠ "java/lang/invoke/VarHandle" ∧ (parseMethodDescriptor yX4_remove.desc).map (fun d => d.parameters.length) = some 2 := by decide +kernel
set_option maxHeartbeats 4000000 in
set_option maxRecDepth 100000 in
theorem m_X4_remove (l : Launch) (G : zt_G) {σ : zt_St} {k0 : Nat} (hk0 : zt_kd k0 = 3) {x1 : Int32} {x2 : Int32} {r : Int32} {σ1 : zt_St} (hf : f_X4_remove σ k0 x1 x2 = some (r, σ1)) : zt_Mi l G yX4_remove wsX4_remove 1 23 [.ref (zt_ad G k0), .int x1, .int x2] σ r σ1 := by
  refine Met.ofW (cc := cX4_remove) (maxL := 5) (ret := (some .boolean)) (by decide) rfl ?_
  intro p e s m args below meth c s₁ B hml hv
  obtain ⟨rfl, hBB⟩ := hv
  have hE := zt_B.env hBB; have hK := hE.2.1; have hP := hBB.2.1
  have hx := B.exec; have hb := B.bytes; have hr := B.returns; have hts := atoms_spec (ws := wsX4_remove) B.pre
  have hown : s.vm.findClass RX4 = some m.cls := findClass_of_methodNamed B.named
  have hlocks := B.notSynchronized
  have hS : va_S (zt_A G) s.heap s.heap [] := va_S.rf
  have hl := lv_entry ([.ref (zt_ad G k0), .int x1, .int x2]) (n := 5) (Nat.le_of_ble_eq_true rfl)
  rw [lg_entry_eq]
  generalize (lg_sl ([.ref (zt_ad G k0), .int x1, .int x2]) ++ List.replicate (5 - (lg_sl ([.ref (zt_ad G k0), .int x1, .int x2])).length) Slot.unset).toArray = ls at hl ⊢
  have hl : lv_has ls 5 [(0, .ref (zt_ad G k0)), (1, .int x1), (2, .int x2)] := hl
  show W p l e (zt_R 1 23) s m ([.ref (zt_ad G k0), .int x1, .int x2] : List Value).toArray below meth c s.heap [] 0 0 (MQ below (zt_Ci G r σ1) ([.ref (zt_ad G k0), .int x1, .int x2] : List Value).toArray s 0 0 (zt_A G)) (F0 m 0 ls [])
  have fl9 := hts (.fieldLink RX4 9 "ZoneTree$Records" "places" "[I") (List.mem_cons_of_mem _ (List.mem_append_left _ (List.mem_append_left _ (List.mem_of_getElem? (i := 0) rfl))))
  have fl15 := hts (.fieldLink RX4 15 "ZoneTree$Records" "sorts" "[I") (List.mem_cons_of_mem _ (List.mem_append_left _ (List.mem_append_left _ (List.mem_of_getElem? (i := 2) rfl))))
  have fl18 := hts (.fieldLink RX4 18 "ZoneTree$Records" "numbers" "[I") (List.mem_cons_of_mem _ (List.mem_append_left _ (List.mem_append_left _ (List.mem_of_getElem? (i := 3) rfl))))
  have fl21 := hts (.fieldLink RX4 21 "ZoneTree$Records" "lives" "[I") (List.mem_cons_of_mem _ (List.mem_append_left _ (List.mem_append_left _ (List.mem_of_getElem? (i := 4) rfl))))
  have fl24 := hts (.fieldLink RX4 24 "ZoneTree$Records" "count" "I") (List.mem_cons_of_mem _ (List.mem_append_left _ (List.mem_append_left _ (List.mem_of_getElem? (i := 1) rfl))))
  have inX4 : ∀ w ∈ wsX40, w ∈ wsX4_remove := fun w h => (List.mem_cons_of_mem _ (List.mem_append_right _ h))
  unfold f_X4_remove at hf
  refine lv_aload_n hx hb dX4_remove_0 rfl (lv_at hl 0 rfl) ?_
  refine lv_iload_n hx hb dX4_remove_1 rfl (lv_at hl 1 rfl) ?_
  refine lv_iload_n hx hb dX4_remove_2 rfl (lv_at hl 2 rfl) ?_
  obtain ⟨v1, hvv1, hf⟩ := zt_bd_some hf
  refine va_calli (va_runV (As := [.int x1, .int x2]) (rest := []) ⟨hx, hb, hml, hown, hts⟩ (m_X4_rowOf l G hk0 (σ := σ) hvv1) (cwV 2 hts gX4_remove_X4_rowOf rfl rfl rfl zh_X4_rowOf ⟨Nat.le_of_ble_eq_true rfl, Nat.le_of_ble_eq_true rfl⟩) ⟨zt_blind, va_recv hK hP (ci := 3) (q0 := k0) rfl (zt_a3 hk0), fun U hU hW => ⟨rfl, zt_go hE hP hS zt_id hU hW⟩⟩ rfl rfl hl.1 rfl (lv_room (Nat.le_of_ble_eq_true rfl)) dX4_remove_3 ⟨Nat.zero_le _, Nat.zero_le _⟩) hS (fun _ _ h => h) (fun _ h => h) (fun r u t H locs ht hvm hw hB _ _ hS => ?_)
  rw [hw.1]; have hB : zt_B G u t := hB; rw [hw.2] at hB; have hP := zt_B.P hB ht
  refine lv_istore_n (lv' := [(3, .int v1), (0, .ref (zt_ad G k0)), (1, .int x1), (2, .int x2)]) hx hb dX4_remove_6 rfl hl (by decide) rfl (fun ls hl => ?_)
  refine lv_iload_n hx hb dX4_remove_7 rfl (lv_at hl 0 rfl) ?_
  refine lv_if_lt (tgt := 20) hx hb dX4_remove_8 (by decide) (fun c3 => ?_) (fun c3 => ?_)
  · have hf := (if_pos c3).symm.trans hf
    refine lv_iconst (v := 0) hx hb dX4_remove_20 (by decide) ?_
    exact W.zret hx hb hr (zt_bn (by decide)).1 (fun t ht hW => ⟨⟨_, _, rfl, (Prod.mk.inj (Option.some.inj hf)), zt_go hE hP hS zt_id ht hW⟩, hS.F ht⟩) hS.2.2 dX4_remove_21
  · have hf := (if_neg c3).symm.trans hf
    refine lv_iload_n hx hb dX4_remove_11 rfl (lv_at hl 0 rfl) ?_
    refine lv_aload_n hx hb dX4_remove_12 rfl (lv_at hl 1 rfl) ?_
    refine va_get (D := zt_D G) (ci := 3) (v := .ref (zt_ad G (k0 + 1))) (C := RX4) (T := TX4) (N := 5) hx hb hts inX4 hown hK hP k0 (zt_a3 hk0) rfl 0 (by decide) fl9 (fun _ h9 => h9) rfl dX4_remove_13 ?_
    refine va_alen hx hb hK hP (k0 + 1) 0 (zt_a9 (zt_k3_0 hk0)) rfl (v := Int32.ofNat (zt_ln (k0 + 1))) rfl dX4_remove_16 ?_
    refine lv_icmp_lt (tgt := 22) hx hb dX4_remove_17 (by decide) (fun c4 => ?_) (fun c4 => ?_)
    · have hf := (if_pos c4).symm.trans hf
      refine lv_aload_n hx hb dX4_remove_22 rfl (lv_at hl 1 rfl) ?_
      refine va_get (D := zt_D G) (ci := 3) (v := .int (σ k0 4)) (C := RX4) (T := TX4) (N := 5) hx hb hts inX4 hown hK hP k0 (zt_a3 hk0) rfl 4 (by decide) fl24 (fun _ h9 => h9) rfl dX4_remove_23 ?_
      refine lv_iconst (v := 1) hx hb dX4_remove_26 (by decide) ?_
      refine lv_isub hx hb dX4_remove_27 ?_
      refine lv_istore (lv' := [(4, .int ((σ k0 4) - 1)), (3, .int v1), (0, .ref (zt_ad G k0)), (1, .int x1), (2, .int x2)]) hx hb dX4_remove_28 hl (by decide) rfl (fun ls hl => ?_)
      refine lv_aload_n hx hb dX4_remove_30 rfl (lv_at hl 2 rfl) ?_
      refine va_get (D := zt_D G) (ci := 3) (v := .ref (zt_ad G (k0 + 1))) (C := RX4) (T := TX4) (N := 5) hx hb hts inX4 hown hK hP k0 (zt_a3 hk0) rfl 0 (by decide) fl9 (fun _ h9 => h9) rfl dX4_remove_31 ?_
      refine lv_iload_n hx hb dX4_remove_34 rfl (lv_at hl 1 rfl) ?_
      refine lv_aload_n hx hb dX4_remove_35 rfl (lv_at hl 2 rfl) ?_
      refine lv_iload hx hb dX4_remove_36 (lv_at hl 0 rfl) ?_
      obtain ⟨v5, hvv5, hf⟩ := zt_bd_some hf
      refine va_calli (va_runV (As := [.int ((σ k0 4) - 1)]) (rest := [.int v1, .ref (zt_ad G (k0 + 1))]) ⟨hx, hb, hml, hown, hts⟩ (m_X4_placeAt l G hk0 (σ := σ) hvv5) (cwV 1 hts gX4_remove_X4_placeAt rfl rfl rfl zh_X4_placeAt ⟨Nat.le_of_ble_eq_true rfl, Nat.le_of_ble_eq_true rfl⟩) ⟨zt_blind, va_recv hK hP (ci := 3) (q0 := k0) rfl (zt_a3 hk0), fun U hU hW => ⟨rfl, zt_go hE hP hS zt_id hU hW⟩⟩ rfl rfl hl.1 rfl (lv_room (Nat.le_of_ble_eq_true rfl)) dX4_remove_38 ⟨Nat.zero_le _, Nat.zero_le _⟩) hS (fun _ _ h => h) (fun _ h => h) (fun r u t H locs ht hvm hw hB _ _ hS => ?_)
      rw [hw.1]; have hB : zt_B G u t := hB; rw [hw.2] at hB; have hP := zt_B.P hB ht
      obtain ⟨g7, hf⟩ := zt_gd_some hf
      obtain ⟨σ8, hσ8, hf⟩ := zt_lt_some hf
      refine va_iast hx hb hK hP (zt_apart hE.1) hS (k0 + 1) 0 (zt_a9 (zt_k3_0 hk0)) rfl (zt_gI_in g7) dX4_remove_41 (fun H locs hP _ hS => ?_)
      rw [zt_p9 (zt_k3_0 hk0), ← hσ8] at hP
      refine lv_aload_n hx hb dX4_remove_42 rfl (lv_at hl 2 rfl) ?_
      refine va_get (D := zt_D G) (ci := 3) (v := .ref (zt_ad G (k0 + 2))) (C := RX4) (T := TX4) (N := 5) hx hb hts inX4 hown hK hP k0 (zt_a3 hk0) rfl 1 (by decide) fl15 (fun _ h9 => h9) rfl dX4_remove_43 ?_
      refine lv_iload_n hx hb dX4_remove_46 rfl (lv_at hl 1 rfl) ?_
      refine lv_aload_n hx hb dX4_remove_47 rfl (lv_at hl 2 rfl) ?_
      refine lv_iload hx hb dX4_remove_48 (lv_at hl 0 rfl) ?_
      obtain ⟨v9, hvv9, hf⟩ := zt_bd_some hf
      refine va_calli (va_runV (As := [.int ((σ k0 4) - 1)]) (rest := [.int v1, .ref (zt_ad G (k0 + 2))]) ⟨hx, hb, hml, hown, hts⟩ (m_X4_sortAt l G hk0 (σ := σ8) hvv9) (cwV 1 hts gX4_remove_X4_sortAt rfl rfl rfl zh_X4_sortAt ⟨Nat.le_of_ble_eq_true rfl, Nat.le_of_ble_eq_true rfl⟩) ⟨zt_blind, va_recv hK hP (ci := 3) (q0 := k0) rfl (zt_a3 hk0), fun U hU hW => ⟨rfl, zt_go hE hP hS zt_id hU hW⟩⟩ rfl rfl hl.1 rfl (lv_room (Nat.le_of_ble_eq_true rfl)) dX4_remove_50 ⟨Nat.zero_le _, Nat.zero_le _⟩) hS (fun _ _ h => h) (fun _ h => h) (fun r u t H locs ht hvm hw hB _ _ hS => ?_)
      rw [hw.1]; have hB : zt_B G u t := hB; rw [hw.2] at hB; have hP := zt_B.P hB ht
      obtain ⟨g11, hf⟩ := zt_gd_some hf
      obtain ⟨σ12, hσ12, hf⟩ := zt_lt_some hf
      refine va_iast hx hb hK hP (zt_apart hE.1) hS (k0 + 2) 0 (zt_a9 (zt_k3_1 hk0)) rfl (zt_gI_in g11) dX4_remove_53 (fun H locs hP _ hS => ?_)
      rw [zt_p9 (zt_k3_1 hk0), ← hσ12] at hP
      refine lv_aload_n hx hb dX4_remove_54 rfl (lv_at hl 2 rfl) ?_
      refine va_get (D := zt_D G) (ci := 3) (v := .ref (zt_ad G (k0 + 3))) (C := RX4) (T := TX4) (N := 5) hx hb hts inX4 hown hK hP k0 (zt_a3 hk0) rfl 2 (by decide) fl18 (fun _ h9 => h9) rfl dX4_remove_55 ?_
      refine lv_iload_n hx hb dX4_remove_58 rfl (lv_at hl 1 rfl) ?_
      refine lv_aload_n hx hb dX4_remove_59 rfl (lv_at hl 2 rfl) ?_
      refine lv_iload hx hb dX4_remove_60 (lv_at hl 0 rfl) ?_
      obtain ⟨v13, hvv13, hf⟩ := zt_bd_some hf
      refine va_calli (va_runV (As := [.int ((σ k0 4) - 1)]) (rest := [.int v1, .ref (zt_ad G (k0 + 3))]) ⟨hx, hb, hml, hown, hts⟩ (m_X4_numberAt l G hk0 (σ := σ12) hvv13) (cwV 1 hts gX4_remove_X4_numberAt rfl rfl rfl zh_X4_numberAt ⟨Nat.le_of_ble_eq_true rfl, Nat.le_of_ble_eq_true rfl⟩) ⟨zt_blind, va_recv hK hP (ci := 3) (q0 := k0) rfl (zt_a3 hk0), fun U hU hW => ⟨rfl, zt_go hE hP hS zt_id hU hW⟩⟩ rfl rfl hl.1 rfl (lv_room (Nat.le_of_ble_eq_true rfl)) dX4_remove_62 ⟨Nat.zero_le _, Nat.zero_le _⟩) hS (fun _ _ h => h) (fun _ h => h) (fun r u t H locs ht hvm hw hB _ _ hS => ?_)
      rw [hw.1]; have hB : zt_B G u t := hB; rw [hw.2] at hB; have hP := zt_B.P hB ht
      obtain ⟨g15, hf⟩ := zt_gd_some hf
      obtain ⟨σ16, hσ16, hf⟩ := zt_lt_some hf
      refine va_iast hx hb hK hP (zt_apart hE.1) hS (k0 + 3) 0 (zt_a9 (zt_k3_2 hk0)) rfl (zt_gI_in g15) dX4_remove_65 (fun H locs hP _ hS => ?_)
      rw [zt_p9 (zt_k3_2 hk0), ← hσ16] at hP
      refine lv_aload_n hx hb dX4_remove_66 rfl (lv_at hl 2 rfl) ?_
      refine va_get (D := zt_D G) (ci := 3) (v := .ref (zt_ad G (k0 + 4))) (C := RX4) (T := TX4) (N := 5) hx hb hts inX4 hown hK hP k0 (zt_a3 hk0) rfl 3 (by decide) fl21 (fun _ h9 => h9) rfl dX4_remove_67 ?_
      refine lv_iload_n hx hb dX4_remove_70 rfl (lv_at hl 1 rfl) ?_
      refine lv_aload_n hx hb dX4_remove_71 rfl (lv_at hl 2 rfl) ?_
      refine lv_iload hx hb dX4_remove_72 (lv_at hl 0 rfl) ?_
      obtain ⟨v17, hvv17, hf⟩ := zt_bd_some hf
      refine va_calli (va_runV (As := [.int ((σ k0 4) - 1)]) (rest := [.int v1, .ref (zt_ad G (k0 + 4))]) ⟨hx, hb, hml, hown, hts⟩ (m_X4_lifeAt l G hk0 (σ := σ16) hvv17) (cwV 1 hts gX4_remove_X4_lifeAt rfl rfl rfl zh_X4_lifeAt ⟨Nat.le_of_ble_eq_true rfl, Nat.le_of_ble_eq_true rfl⟩) ⟨zt_blind, va_recv hK hP (ci := 3) (q0 := k0) rfl (zt_a3 hk0), fun U hU hW => ⟨rfl, zt_go hE hP hS zt_id hU hW⟩⟩ rfl rfl hl.1 rfl (lv_room (Nat.le_of_ble_eq_true rfl)) dX4_remove_74 ⟨Nat.zero_le _, Nat.zero_le _⟩) hS (fun _ _ h => h) (fun _ h => h) (fun r u t H locs ht hvm hw hB _ _ hS => ?_)
      rw [hw.1]; have hB : zt_B G u t := hB; rw [hw.2] at hB; have hP := zt_B.P hB ht
      obtain ⟨g19, hf⟩ := zt_gd_some hf
      obtain ⟨σ20, hσ20, hf⟩ := zt_lt_some hf
      refine va_iast hx hb hK hP (zt_apart hE.1) hS (k0 + 4) 0 (zt_a9 (zt_k3_3 hk0)) rfl (zt_gI_in g19) dX4_remove_77 (fun H locs hP _ hS => ?_)
      rw [zt_p9 (zt_k3_3 hk0), ← hσ20] at hP
      refine lv_aload_n hx hb dX4_remove_78 rfl (lv_at hl 2 rfl) ?_
      refine lv_iload hx hb dX4_remove_79 (lv_at hl 0 rfl) ?_
      obtain ⟨σ21, hσ21, hf⟩ := zt_lt_some hf
      refine va_put (D := zt_D G) (ci := 3) (v := .int ((σ k0 4) - 1)) (ty := .int) (C := RX4) (T := TX4) (N := 5) hx hb hts inX4 tyX4 tyX4_ok nmX4 hown hK hP (zt_apart hE.1) hS k0 (zt_a3 hk0) rfl 4 (by decide) fl24 (fun _ h9 => h9) rfl (tyX4_ok 4 (by decide)) rfl rfl (Nat.le_of_ble_eq_true rfl) dX4_remove_81 (fun H locs hP _ hS => ?_)
      rw [zt_p3_4 hk0, ← hσ21] at hP
      refine lv_iconst (v := 1) hx hb dX4_remove_84 (by decide) ?_
      exact W.zret hx hb hr (zt_bn (by decide)).1 (fun t ht hW => ⟨⟨_, _, rfl, (Prod.mk.inj (Option.some.inj hf)), zt_go hE hP hS zt_id ht hW⟩, hS.F ht⟩) hS.2.2 dX4_remove_85
    · have hf := (if_neg c4).symm.trans hf
      refine lv_iconst (v := 0) hx hb dX4_remove_20 (by decide) ?_
      exact W.zret hx hb hr (zt_bn (by decide)).1 (fun t ht hW => ⟨⟨_, _, rfl, (Prod.mk.inj (Option.some.inj hf)), zt_go hE hP hS zt_id ht hW⟩, hS.F ht⟩) hS.2.2 dX4_remove_21

theorem zh_X3_nameOf : yX3_nameOf.cls ≠ "java/lang/invoke/MethodHandle" ∧ yX3_nameOf.cls ≠ "java/lang/invoke/VarHandle" ∧ (parseMethodDescriptor yX3_nameOf.desc).map (fun d => d.parameters.length) = some 1 := by decide +kernel
set_option maxHeartbeats 4000000 in
set_option maxRecDepth 100000 in
theorem m_X3_nameOf (l : Launch) (G : zt_G) {σ : zt_St} {x0 : Int32} {r : Int32} (hf : f_X3_nameOf x0 = some r) : zt_Mi l G yX3_nameOf wsX3_nameOf 0 0 [.int x0] σ r σ := by
  refine Met.ofW (cc := cX3_nameOf) (maxL := 1) (ret := (some .int)) (by decide) rfl ?_
  intro p e s m args below meth c s₁ B hml hv
  obtain ⟨rfl, hBB⟩ := hv
  have hE := zt_B.env hBB; have hK := hE.2.1; have hP := hBB.2.1
  have hx := B.exec; have hb := B.bytes; have hr := B.returns; have hts := atoms_spec (ws := wsX3_nameOf) B.pre
  have hown : s.vm.findClass RX3 = some m.cls := findClass_of_methodNamed B.named
  have hlocks := B.notSynchronized
  have hS : va_S (zt_A G) s.heap s.heap [] := va_S.rf
  have hl := lv_entry ([.int x0]) (n := 1) (Nat.le_of_ble_eq_true rfl)
  rw [lg_entry_eq]
  generalize (lg_sl ([.int x0]) ++ List.replicate (1 - (lg_sl ([.int x0])).length) Slot.unset).toArray = ls at hl ⊢
  have hl : lv_has ls 1 [(0, .int x0)] := hl
  show W p l e (zt_R 0 0) s m ([.int x0] : List Value).toArray below meth c s.heap [] 0 0 (MQ below (zt_Ci G r σ) ([.int x0] : List Value).toArray s 0 0 (zt_A G)) (F0 m 0 ls [])
  unfold f_X3_nameOf at hf
  refine lv_iload_n hx hb dX3_nameOf_0 rfl (lv_at hl 0 rfl) ?_
  refine lv_bipush (v := 10) hx hb dX3_nameOf_1 (by decide +kernel) ?_
  refine lv_irem hx hb dX3_nameOf_3 (by decide) ?_
  refine lv_if_ne (tgt := 14) hx hb dX3_nameOf_4 (by decide) (fun c1 => ?_) (fun c1 => ?_)
  · have hf := (if_neg c1).symm.trans hf
    refine lv_iload_n hx hb dX3_nameOf_14 rfl (lv_at hl 0 rfl) ?_
    exact W.iret hx hb hr (fun t ht hW => ⟨⟨_, _, rfl, ⟨Option.some.inj hf, rfl⟩, zt_go hE hP hS zt_id ht hW⟩, hS.F ht⟩) hS.2.2 dX3_nameOf_15
  · have hf := (if_pos c1).symm.trans hf
    refine lv_iload_n hx hb dX3_nameOf_7 rfl (lv_at hl 0 rfl) ?_
    refine lv_bipush (v := 10) hx hb dX3_nameOf_8 (by decide +kernel) ?_
    refine lv_idiv hx hb dX3_nameOf_10 (by decide) ?_
    refine lv_goto (tgt := 15) hx hb dX3_nameOf_11 (by decide) ?_
    exact W.iret hx hb hr (fun t ht hW => ⟨⟨_, _, rfl, ⟨Option.some.inj hf, rfl⟩, zt_go hE hP hS zt_id ht hW⟩, hS.F ht⟩) hS.2.2 dX3_nameOf_15

theorem zh_X3_isUnder : yX3_isUnder.cls ≠ "java/lang/invoke/MethodHandle" ∧ yX3_isUnder.cls ≠ "java/lang/invoke/VarHandle" ∧ (parseMethodDescriptor yX3_isUnder.desc).map (fun d => d.parameters.length) = some 2 := by decide +kernel
set_option maxHeartbeats 4000000 in
set_option maxRecDepth 100000 in
theorem m_X3_isUnder (l : Launch) (G : zt_G) {σ : zt_St} {x0 : Int32} {x1 : Int32} {r : Int32} (hf : f_X3_isUnder x0 x1 = some r) : zt_Mi l G yX3_isUnder wsX3_isUnder 0 0 [.int x0, .int x1] σ r σ := by
  refine Met.ofW (cc := cX3_isUnder) (maxL := 4) (ret := (some .boolean)) (by decide) rfl ?_
  intro p e s m args below meth c s₁ B hml hv
  obtain ⟨rfl, hBB⟩ := hv
  have hE := zt_B.env hBB; have hK := hE.2.1; have hP := hBB.2.1
  have hx := B.exec; have hb := B.bytes; have hr := B.returns; have hts := atoms_spec (ws := wsX3_isUnder) B.pre
  have hown : s.vm.findClass RX3 = some m.cls := findClass_of_methodNamed B.named
  have hlocks := B.notSynchronized
  have hS : va_S (zt_A G) s.heap s.heap [] := va_S.rf
  have hl := lv_entry ([.int x0, .int x1]) (n := 4) (Nat.le_of_ble_eq_true rfl)
  rw [lg_entry_eq]
  generalize (lg_sl ([.int x0, .int x1]) ++ List.replicate (4 - (lg_sl ([.int x0, .int x1])).length) Slot.unset).toArray = ls at hl ⊢
  have hl : lv_has ls 4 [(0, .int x0), (1, .int x1)] := hl
  show W p l e (zt_R 0 0) s m ([.int x0, .int x1] : List Value).toArray below meth c s.heap [] 0 0 (MQ below (zt_Ci G r σ) ([.int x0, .int x1] : List Value).toArray s 0 0 (zt_A G)) (F0 m 0 ls [])
  have B25 : ∀ (u1 : Int32) (u2 : Int32) (H : Heap) (locs : List Loc) (ls : Array Slot), f_X3_isUnder_25 u1 u2 = some r → va_P (zt_D G) vwCl (zt_ww G σ) H → va_S (zt_A G) s.heap H locs → lv_has ls 4 [(1, .int u1), (2, .int u2)] → W p l e (zt_R 0 0) s m ([.int x0, .int x1] : List Value).toArray below meth c H locs 0 0 (MQ below (zt_Ci G r σ) ([.int x0, .int x1] : List Value).toArray s 0 0 (zt_A G)) (F0 m 25 ls []) := by
    intro u1 u2 H locs ls hf hP hS hl
    unfold f_X3_isUnder_25 at hf
    refine lv_iload_n hx hb dX3_isUnder_25 rfl (lv_at hl 1 rfl) ?_
    refine lv_iload_n hx hb dX3_isUnder_26 rfl (lv_at hl 0 rfl) ?_
    refine lv_icmp_ne (tgt := 34) hx hb dX3_isUnder_27 (by decide) (fun c3 => ?_) (fun c3 => ?_)
    · have hf := (if_neg c3).symm.trans hf
      refine lv_iconst (v := 0) hx hb dX3_isUnder_34 (by decide) ?_
      exact W.zret hx hb hr (zt_bn (by decide)).1 (fun t ht hW => ⟨⟨_, _, rfl, ⟨Option.some.inj hf, rfl⟩, zt_go hE hP hS zt_id ht hW⟩, hS.F ht⟩) hS.2.2 dX3_isUnder_35
    · have hf := (if_pos c3).symm.trans hf
      refine lv_iconst (v := 1) hx hb dX3_isUnder_30 (by decide) ?_
      refine lv_goto (tgt := 35) hx hb dX3_isUnder_31 (by decide) ?_
      exact W.zret hx hb hr (zt_bn (by decide)).1 (fun t ht hW => ⟨⟨_, _, rfl, ⟨Option.some.inj hf, rfl⟩, zt_go hE hP hS zt_id ht hW⟩, hS.F ht⟩) hS.2.2 dX3_isUnder_35
  have B4 : ∀ (n : Nat), ∀ (u1 : Int32) (u2 : Int32) (u3 : Int32) (H : Heap) (locs : List Loc) (ls : Array Slot), f_X3_isUnder_4 n u1 u2 u3 = some r → va_P (zt_D G) vwCl (zt_ww G σ) H → va_S (zt_A G) s.heap H locs → lv_has ls 4 [(1, .int u1), (2, .int u2), (3, .int u3)] → W p l e (zt_R 0 0) s m ([.int x0, .int x1] : List Value).toArray below meth c H locs 0 0 (MQ below (zt_Ci G r σ) ([.int x0, .int x1] : List Value).toArray s 0 0 (zt_A G)) (F0 m 4 ls []) := by
    intro n
    induction n with
    | zero => intro u1 u2 u3 H locs ls hf; exact nomatch hf
    | succ n hrc4 =>
      intro u1 u2 u3 H locs ls hf hP hS hl
      generalize hrcg : f_X3_isUnder_4 n = rc4 at hrc4
      have hf : f_X3_isUnder_4b rc4 u1 u2 u3 = some r := by rw [← hrcg]; exact hf
      unfold f_X3_isUnder_4b at hf
      refine lv_iload_n hx hb dX3_isUnder_4 rfl (lv_at hl 2 rfl) ?_
      refine lv_iconst (v := 4) hx hb dX3_isUnder_5 (by decide) ?_
      refine lv_icmp_ge (tgt := 25) hx hb dX3_isUnder_6 (by decide) (fun c1 => ?_) (fun c1 => ?_)
      · have hf := (if_pos c1).symm.trans hf
        exact B25 u1 u2 _ _ _ hf hP hS (lv_sub hl [0, 1] rfl)
      · have hf := (if_neg c1).symm.trans hf
        refine lv_iload_n hx hb dX3_isUnder_9 rfl (lv_at hl 1 rfl) ?_
        refine lv_iload_n hx hb dX3_isUnder_10 rfl (lv_at hl 0 rfl) ?_
        refine lv_icmp_le (tgt := 25) hx hb dX3_isUnder_11 (by decide) (fun c2 => ?_) (fun c2 => ?_)
        · have hf := (if_pos c2).symm.trans hf
          exact B25 u1 u2 _ _ _ hf hP hS (lv_sub hl [0, 1] rfl)
        · have hf := (if_neg c2).symm.trans hf
          refine lv_iload_n hx hb dX3_isUnder_14 rfl (lv_at hl 1 rfl) ?_
          refine lv_bipush (v := 10) hx hb dX3_isUnder_15 (by decide +kernel) ?_
          refine lv_idiv hx hb dX3_isUnder_17 (by decide) ?_
          refine lv_istore_n (lv' := [(2, .int (u2 / 10)), (1, .int u1), (3, .int u3)]) hx hb dX3_isUnder_18 rfl hl (by decide) rfl (fun ls hl => ?_)
          refine lv_iinc (v := (u3 + 1)) (lv' := [(3, .int (u3 + 1)), (2, .int (u2 / 10)), (1, .int u1)]) hx hb dX3_isUnder_19 hl (k := 2) rfl rfl (by decide) rfl (fun ls hl => ?_)
          refine lv_goto (tgt := 4) hx hb dX3_isUnder_22 (by decide) ?_
          exact hrc4 u1 (u2 / 10) (u3 + 1) _ _ _ hf hP hS (lv_sub hl [2, 1, 0] rfl)
  unfold f_X3_isUnder at hf
  refine lv_iload_n hx hb dX3_isUnder_0 rfl (lv_at hl 0 rfl) ?_
  refine lv_istore_n (lv' := [(2, .int x0), (0, .int x0), (1, .int x1)]) hx hb dX3_isUnder_1 rfl hl (by decide) rfl (fun ls hl => ?_)
  refine lv_iconst (v := 0) hx hb dX3_isUnder_2 (by decide) ?_
  refine lv_istore_n (lv' := [(3, .int 0), (2, .int x0), (0, .int x0), (1, .int x1)]) hx hb dX3_isUnder_3 rfl hl (by decide) rfl (fun ls hl => ?_)
  exact B4 zt_FU x1 x0 0 _ _ _ hf hP hS (lv_sub hl [3, 1, 0] rfl)

theorem zh_X4_countAt : yX4_countAt.cls = RX4 ∧ yX4_countAt.cls ≠ "java/lang/invoke/MethodHandle" ∧ yX4_countAt.cls ≠ "java/lang/invoke/VarHandle" ∧ (parseMethodDescriptor yX4_countAt.desc).map (fun d => d.parameters.length) = some 1 := by decide +kernel
set_option maxHeartbeats 4000000 in
set_option maxRecDepth 100000 in
theorem m_X4_countAt (l : Launch) (G : zt_G) {σ : zt_St} {k0 : Nat} (hk0 : zt_kd k0 = 3) {x1 : Int32} {r : Int32} (hf : f_X4_countAt σ k0 x1 = some r) : zt_Mi l G yX4_countAt wsX4_countAt 0 0 [.ref (zt_ad G k0), .int x1] σ r σ := by
  refine Met.ofW (cc := cX4_countAt) (maxL := 4) (ret := (some .int)) (by decide) rfl ?_
  intro p e s m args below meth c s₁ B hml hv
  obtain ⟨rfl, hBB⟩ := hv
  have hE := zt_B.env hBB; have hK := hE.2.1; have hP := hBB.2.1
  have hx := B.exec; have hb := B.bytes; have hr := B.returns; have hts := atoms_spec (ws := wsX4_countAt) B.pre
  have hown : s.vm.findClass RX4 = some m.cls := findClass_of_methodNamed B.named
  have hlocks := B.notSynchronized
  have hS : va_S (zt_A G) s.heap s.heap [] := va_S.rf
  have hl := lv_entry ([.ref (zt_ad G k0), .int x1]) (n := 4) (Nat.le_of_ble_eq_true rfl)
  rw [lg_entry_eq]
  generalize (lg_sl ([.ref (zt_ad G k0), .int x1]) ++ List.replicate (4 - (lg_sl ([.ref (zt_ad G k0), .int x1])).length) Slot.unset).toArray = ls at hl ⊢
  have hl : lv_has ls 4 [(0, .ref (zt_ad G k0)), (1, .int x1)] := hl
  show W p l e (zt_R 0 0) s m ([.ref (zt_ad G k0), .int x1] : List Value).toArray below meth c s.heap [] 0 0 (MQ below (zt_Ci G r σ) ([.ref (zt_ad G k0), .int x1] : List Value).toArray s 0 0 (zt_A G)) (F0 m 0 ls [])
  have fl9 := hts (.fieldLink RX4 9 "ZoneTree$Records" "places" "[I") (List.mem_cons_of_mem _ (List.mem_append_left _ (List.mem_of_getElem? (i := 1) rfl)))
  have fl24 := hts (.fieldLink RX4 24 "ZoneTree$Records" "count" "I") (List.mem_cons_of_mem _ (List.mem_append_left _ (List.mem_of_getElem? (i := 0) rfl)))
  have inX4 : ∀ w ∈ wsX40, w ∈ wsX4_countAt := fun w h => (List.mem_cons_of_mem _ (List.mem_append_right _ h))
  have B34 : ∀ (rc4 : Int32 → Int32 → Int32 → Option (Int32)) (hrc4 : ∀ (u1 : Int32) (u2 : Int32) (u3 : Int32) (H : Heap) (locs : List Loc) (ls : Array Slot), rc4 u1 u2 u3 = some r → va_P (zt_D G) vwCl (zt_ww G σ) H → va_S (zt_A G) s.heap H locs → lv_has ls 4 [(0, .ref (zt_ad G k0)), (1, .int u1), (2, .int u2), (3, .int u3)] → W p l e (zt_R 0 0) s m ([.ref (zt_ad G k0), .int x1] : List Value).toArray below meth c H locs 0 0 (MQ below (zt_Ci G r σ) ([.ref (zt_ad G k0), .int x1] : List Value).toArray s 0 0 (zt_A G)) (F0 m 4 ls [])), ∀ (u1 : Int32) (u2 : Int32) (u3 : Int32) (H : Heap) (locs : List Loc) (ls : Array Slot), f_X4_countAt_34 σ k0 rc4 u1 u2 u3 = some r → va_P (zt_D G) vwCl (zt_ww G σ) H → va_S (zt_A G) s.heap H locs → lv_has ls 4 [(0, .ref (zt_ad G k0)), (1, .int u1), (2, .int u2), (3, .int u3)] → W p l e (zt_R 0 0) s m ([.ref (zt_ad G k0), .int x1] : List Value).toArray below meth c H locs 0 0 (MQ below (zt_Ci G r σ) ([.ref (zt_ad G k0), .int x1] : List Value).toArray s 0 0 (zt_A G)) (F0 m 34 ls []) := by
    intro rc4 hrc4 u1 u2 u3 H locs ls hf hP hS hl
    unfold f_X4_countAt_34 at hf
    refine lv_iinc (v := (u3 + 1)) (lv' := [(3, .int (u3 + 1)), (0, .ref (zt_ad G k0)), (1, .int u1), (2, .int u2)]) hx hb dX4_countAt_34 hl (k := 3) rfl rfl (by decide) rfl (fun ls hl => ?_)
    refine lv_goto (tgt := 4) hx hb dX4_countAt_37 (by decide) ?_
    exact hrc4 u1 u2 (u3 + 1) _ _ _ hf hP hS (lv_sub hl [1, 2, 3, 0] rfl)
  have B4 : ∀ (n : Nat), ∀ (u1 : Int32) (u2 : Int32) (u3 : Int32) (H : Heap) (locs : List Loc) (ls : Array Slot), f_X4_countAt_4 σ k0 n u1 u2 u3 = some r → va_P (zt_D G) vwCl (zt_ww G σ) H → va_S (zt_A G) s.heap H locs → lv_has ls 4 [(0, .ref (zt_ad G k0)), (1, .int u1), (2, .int u2), (3, .int u3)] → W p l e (zt_R 0 0) s m ([.ref (zt_ad G k0), .int x1] : List Value).toArray below meth c H locs 0 0 (MQ below (zt_Ci G r σ) ([.ref (zt_ad G k0), .int x1] : List Value).toArray s 0 0 (zt_A G)) (F0 m 4 ls []) := by
    intro n
    induction n with
    | zero => intro u1 u2 u3 H locs ls hf; exact nomatch hf
    | succ n hrc4 =>
      intro u1 u2 u3 H locs ls hf hP hS hl
      generalize hrcg : f_X4_countAt_4 σ k0 n = rc4 at hrc4
      have hf : f_X4_countAt_4b σ k0 rc4 u1 u2 u3 = some r := by rw [← hrcg]; exact hf
      unfold f_X4_countAt_4b at hf
      refine lv_iload_n hx hb dX4_countAt_4 rfl (lv_at hl 3 rfl) ?_
      refine lv_aload_n hx hb dX4_countAt_5 rfl (lv_at hl 0 rfl) ?_
      refine va_get (D := zt_D G) (ci := 3) (v := .int (σ k0 4)) (C := RX4) (T := TX4) (N := 5) hx hb hts inX4 hown hK hP k0 (zt_a3 hk0) rfl 4 (by decide) fl24 (fun _ h9 => h9) rfl dX4_countAt_6 ?_
      refine lv_icmp_ge (tgt := 40) hx hb dX4_countAt_9 (by decide) (fun c1 => ?_) (fun c1 => ?_)
      · have hf := (if_pos c1).symm.trans hf
        refine lv_iload_n hx hb dX4_countAt_40 rfl (lv_at hl 2 rfl) ?_
        exact W.iret hx hb hr (fun t ht hW => ⟨⟨_, _, rfl, ⟨Option.some.inj hf, rfl⟩, zt_go hE hP hS zt_id ht hW⟩, hS.F ht⟩) hS.2.2 dX4_countAt_41
      · have hf := (if_neg c1).symm.trans hf
        refine lv_iload_n hx hb dX4_countAt_12 rfl (lv_at hl 3 rfl) ?_
        refine lv_aload_n hx hb dX4_countAt_13 rfl (lv_at hl 0 rfl) ?_
        refine va_get (D := zt_D G) (ci := 3) (v := .ref (zt_ad G (k0 + 1))) (C := RX4) (T := TX4) (N := 5) hx hb hts inX4 hown hK hP k0 (zt_a3 hk0) rfl 0 (by decide) fl9 (fun _ h9 => h9) rfl dX4_countAt_14 ?_
        refine va_alen hx hb hK hP (k0 + 1) 0 (zt_a9 (zt_k3_0 hk0)) rfl (v := Int32.ofNat (zt_ln (k0 + 1))) rfl dX4_countAt_17 ?_
        refine lv_icmp_ge (tgt := 40) hx hb dX4_countAt_18 (by decide) (fun c2 => ?_) (fun c2 => ?_)
        · have hf := (if_pos c2).symm.trans hf
          refine lv_iload_n hx hb dX4_countAt_40 rfl (lv_at hl 2 rfl) ?_
          exact W.iret hx hb hr (fun t ht hW => ⟨⟨_, _, rfl, ⟨Option.some.inj hf, rfl⟩, zt_go hE hP hS zt_id ht hW⟩, hS.F ht⟩) hS.2.2 dX4_countAt_41
        · have hf := (if_neg c2).symm.trans hf
          refine lv_aload_n hx hb dX4_countAt_21 rfl (lv_at hl 0 rfl) ?_
          refine va_get (D := zt_D G) (ci := 3) (v := .ref (zt_ad G (k0 + 1))) (C := RX4) (T := TX4) (N := 5) hx hb hts inX4 hown hK hP k0 (zt_a3 hk0) rfl 0 (by decide) fl9 (fun _ h9 => h9) rfl dX4_countAt_22 ?_
          refine lv_iload_n hx hb dX4_countAt_25 rfl (lv_at hl 3 rfl) ?_
          obtain ⟨g3, hf⟩ := zt_gd_some hf
          refine va_iald hx hb hK hP (k0 + 1) 0 (zt_a9 (zt_k3_0 hk0)) rfl (zt_gI_in g3) dX4_countAt_26 ?_
          refine lv_iload_n hx hb dX4_countAt_27 rfl (lv_at hl 1 rfl) ?_
          refine lv_icmp_ne (tgt := 34) hx hb dX4_countAt_28 (by decide) (fun c4 => ?_) (fun c4 => ?_)
          · have hf := (if_neg c4).symm.trans hf
            exact B34 rc4 hrc4 u1 u2 u3 _ _ _ hf hP hS (lv_sub hl [0, 1, 2, 3] rfl)
          · have hf := (if_pos c4).symm.trans hf
            refine lv_iinc (v := (u2 + 1)) (lv' := [(2, .int (u2 + 1)), (0, .ref (zt_ad G k0)), (1, .int u1), (3, .int u3)]) hx hb dX4_countAt_31 hl (k := 2) rfl rfl (by decide) rfl (fun ls hl => ?_)
            exact B34 rc4 hrc4 u1 (u2 + 1) u3 _ _ _ hf hP hS (lv_sub hl [1, 2, 0, 3] rfl)
  unfold f_X4_countAt at hf
  refine lv_iconst (v := 0) hx hb dX4_countAt_0 (by decide) ?_
  refine lv_istore_n (lv' := [(2, .int 0), (0, .ref (zt_ad G k0)), (1, .int x1)]) hx hb dX4_countAt_1 rfl hl (by decide) rfl (fun ls hl => ?_)
  refine lv_iconst (v := 0) hx hb dX4_countAt_2 (by decide) ?_
  refine lv_istore_n (lv' := [(3, .int 0), (2, .int 0), (0, .ref (zt_ad G k0)), (1, .int x1)]) hx hb dX4_countAt_3 rfl hl (by decide) rfl (fun ls hl => ?_)
  exact B4 zt_FU x1 0 0 _ _ _ hf hP hS (lv_sub hl [2, 3, 1, 0] rfl)

theorem zh_X3_isName : yX3_isName.cls ≠ "java/lang/invoke/MethodHandle" ∧ yX3_isName.cls ≠ "java/lang/invoke/VarHandle" ∧ (parseMethodDescriptor yX3_isName.desc).map (fun d => d.parameters.length) = some 1 := by decide +kernel
set_option maxHeartbeats 4000000 in
set_option maxRecDepth 100000 in
theorem m_X3_isName (l : Launch) (G : zt_G) {σ : zt_St} {x0 : Int32} {r : Int32} (hf : f_X3_isName x0 = some r) : zt_Mi l G yX3_isName wsX3_isName 0 0 [.int x0] σ r σ := by
  refine Met.ofW (cc := cX3_isName) (maxL := 3) (ret := (some .boolean)) (by decide) rfl ?_
  intro p e s m args below meth c s₁ B hml hv
  obtain ⟨rfl, hBB⟩ := hv
  have hE := zt_B.env hBB; have hK := hE.2.1; have hP := hBB.2.1
  have hx := B.exec; have hb := B.bytes; have hr := B.returns; have hts := atoms_spec (ws := wsX3_isName) B.pre
  have hown : s.vm.findClass RX3 = some m.cls := findClass_of_methodNamed B.named
  have hlocks := B.notSynchronized
  have hS : va_S (zt_A G) s.heap s.heap [] := va_S.rf
  have hl := lv_entry ([.int x0]) (n := 3) (Nat.le_of_ble_eq_true rfl)
  rw [lg_entry_eq]
  generalize (lg_sl ([.int x0]) ++ List.replicate (3 - (lg_sl ([.int x0])).length) Slot.unset).toArray = ls at hl ⊢
  have hl : lv_has ls 3 [(0, .int x0)] := hl
  show W p l e (zt_R 0 0) s m ([.int x0] : List Value).toArray below meth c s.heap [] 0 0 (MQ below (zt_Ci G r σ) ([.int x0] : List Value).toArray s 0 0 (zt_A G)) (F0 m 0 ls [])
  have B17 : ∀ (n : Nat), ∀ (u1 : Int32) (u2 : Int32) (H : Heap) (locs : List Loc) (ls : Array Slot), f_X3_isName_17 n u1 u2 = some r → va_P (zt_D G) vwCl (zt_ww G σ) H → va_S (zt_A G) s.heap H locs → lv_has ls 3 [(1, .int u1), (2, .int u2)] → W p l e (zt_R 0 0) s m ([.int x0] : List Value).toArray below meth c H locs 0 0 (MQ below (zt_Ci G r σ) ([.int x0] : List Value).toArray s 0 0 (zt_A G)) (F0 m 17 ls []) := by
    intro n
    induction n with
    | zero => intro u1 u2 H locs ls hf; exact nomatch hf
    | succ n hrc17 =>
      intro u1 u2 H locs ls hf hP hS hl
      generalize hrcg : f_X3_isName_17 n = rc17 at hrc17
      have hf : f_X3_isName_17b rc17 u1 u2 = some r := by rw [← hrcg]; exact hf
      unfold f_X3_isName_17b at hf
      refine lv_iload_n hx hb dX3_isName_17 rfl (lv_at hl 1 rfl) ?_
      refine lv_iconst (v := 4) hx hb dX3_isName_18 (by decide) ?_
      refine lv_icmp_ge (tgt := 46) hx hb dX3_isName_19 (by decide) (fun c3 => ?_) (fun c3 => ?_)
      · have hf := (if_pos c3).symm.trans hf
        refine lv_iconst (v := 1) hx hb dX3_isName_46 (by decide) ?_
        exact W.zret hx hb hr (zt_bn (by decide)).1 (fun t ht hW => ⟨⟨_, _, rfl, ⟨Option.some.inj hf, rfl⟩, zt_go hE hP hS zt_id ht hW⟩, hS.F ht⟩) hS.2.2 dX3_isName_47
      · have hf := (if_neg c3).symm.trans hf
        refine lv_iload_n hx hb dX3_isName_22 rfl (lv_at hl 0 rfl) ?_
        refine lv_if_le (tgt := 46) hx hb dX3_isName_23 (by decide) (fun c4 => ?_) (fun c4 => ?_)
        · have hf := (if_pos c4).symm.trans hf
          refine lv_iconst (v := 1) hx hb dX3_isName_46 (by decide) ?_
          exact W.zret hx hb hr (zt_bn (by decide)).1 (fun t ht hW => ⟨⟨_, _, rfl, ⟨Option.some.inj hf, rfl⟩, zt_go hE hP hS zt_id ht hW⟩, hS.F ht⟩) hS.2.2 dX3_isName_47
        · have hf := (if_neg c4).symm.trans hf
          refine lv_iload_n hx hb dX3_isName_26 rfl (lv_at hl 0 rfl) ?_
          refine lv_bipush (v := 10) hx hb dX3_isName_27 (by decide +kernel) ?_
          refine lv_irem hx hb dX3_isName_29 (by decide) ?_
          refine lv_if_ne (tgt := 35) hx hb dX3_isName_30 (by decide) (fun c5 => ?_) (fun c5 => ?_)
          · have hf := (if_neg c5).symm.trans hf
            refine lv_iload_n hx hb dX3_isName_35 rfl (lv_at hl 0 rfl) ?_
            refine lv_bipush (v := 10) hx hb dX3_isName_36 (by decide +kernel) ?_
            refine lv_idiv hx hb dX3_isName_38 (by decide) ?_
            refine lv_istore_n (lv' := [(1, .int (u1 / 10)), (2, .int u2)]) hx hb dX3_isName_39 rfl hl (by decide) rfl (fun ls hl => ?_)
            refine lv_iinc (v := (u2 + 1)) (lv' := [(2, .int (u2 + 1)), (1, .int (u1 / 10))]) hx hb dX3_isName_40 hl (k := 1) rfl rfl (by decide) rfl (fun ls hl => ?_)
            refine lv_goto (tgt := 17) hx hb dX3_isName_43 (by decide) ?_
            exact hrc17 (u1 / 10) (u2 + 1) _ _ _ hf hP hS (lv_sub hl [1, 0] rfl)
          · have hf := (if_pos c5).symm.trans hf
            refine lv_iconst (v := 0) hx hb dX3_isName_33 (by decide) ?_
            exact W.zret hx hb hr (zt_bn (by decide)).1 (fun t ht hW => ⟨⟨_, _, rfl, ⟨Option.some.inj hf, rfl⟩, zt_go hE hP hS zt_id ht hW⟩, hS.F ht⟩) hS.2.2 dX3_isName_34
  unfold f_X3_isName at hf
  refine lv_iload_n hx hb dX3_isName_0 rfl (lv_at hl 0 rfl) ?_
  refine lv_if_lt (tgt := 11) hx hb dX3_isName_1 (by decide) (fun c1 => ?_) (fun c1 => ?_)
  · have hf := (if_pos c1).symm.trans hf
    refine lv_iconst (v := 0) hx hb dX3_isName_11 (by decide) ?_
    exact W.zret hx hb hr (zt_bn (by decide)).1 (fun t ht hW => ⟨⟨_, _, rfl, ⟨Option.some.inj hf, rfl⟩, zt_go hE hP hS zt_id ht hW⟩, hS.F ht⟩) hS.2.2 dX3_isName_12
  · have hf := (if_neg c1).symm.trans hf
    refine lv_iload_n hx hb dX3_isName_4 rfl (lv_at hl 0 rfl) ?_
    refine lv_sipush (v := 9999) hx hb dX3_isName_5 (by decide +kernel) ?_
    refine lv_icmp_le (tgt := 13) hx hb dX3_isName_8 (by decide) (fun c2 => ?_) (fun c2 => ?_)
    · have hf := (if_pos c2).symm.trans hf
      refine lv_iload_n hx hb dX3_isName_13 rfl (lv_at hl 0 rfl) ?_
      refine lv_istore_n (lv' := [(1, .int x0), (0, .int x0)]) hx hb dX3_isName_14 rfl hl (by decide) rfl (fun ls hl => ?_)
      refine lv_iconst (v := 0) hx hb dX3_isName_15 (by decide) ?_
      refine lv_istore_n (lv' := [(2, .int 0), (1, .int x0), (0, .int x0)]) hx hb dX3_isName_16 rfl hl (by decide) rfl (fun ls hl => ?_)
      exact B17 zt_FU x0 0 _ _ _ hf hP hS (lv_sub hl [1, 0] rfl)
    · have hf := (if_neg c2).symm.trans hf
      refine lv_iconst (v := 0) hx hb dX3_isName_11 (by decide) ?_
      exact W.zret hx hb hr (zt_bn (by decide)).1 (fun t ht hW => ⟨⟨_, _, rfl, ⟨Option.some.inj hf, rfl⟩, zt_go hE hP hS zt_id ht hW⟩, hS.F ht⟩) hS.2.2 dX3_isName_12

theorem zh_X3_isStar : yX3_isStar.cls ≠ "java/lang/invoke/MethodHandle" ∧ yX3_isStar.cls ≠ "java/lang/invoke/VarHandle" ∧ (parseMethodDescriptor yX3_isStar.desc).map (fun d => d.parameters.length) = some 1 := by decide +kernel
set_option maxHeartbeats 4000000 in
set_option maxRecDepth 100000 in
theorem m_X3_isStar (l : Launch) (G : zt_G) {σ : zt_St} {x0 : Int32} {r : Int32} (hf : f_X3_isStar x0 = some r) : zt_Mi l G yX3_isStar wsX3_isStar 1 22 [.int x0] σ r σ := by
  refine Met.ofW (cc := cX3_isStar) (maxL := 1) (ret := (some .boolean)) (by decide) rfl ?_
  intro p e s m args below meth c s₁ B hml hv
  obtain ⟨rfl, hBB⟩ := hv
  have hE := zt_B.env hBB; have hK := hE.2.1; have hP := hBB.2.1
  have hx := B.exec; have hb := B.bytes; have hr := B.returns; have hts := atoms_spec (ws := wsX3_isStar) B.pre
  have hown : s.vm.findClass RX3 = some m.cls := findClass_of_methodNamed B.named
  have hlocks := B.notSynchronized
  have hS : va_S (zt_A G) s.heap s.heap [] := va_S.rf
  have hl := lv_entry ([.int x0]) (n := 1) (Nat.le_of_ble_eq_true rfl)
  rw [lg_entry_eq]
  generalize (lg_sl ([.int x0]) ++ List.replicate (1 - (lg_sl ([.int x0])).length) Slot.unset).toArray = ls at hl ⊢
  have hl : lv_has ls 1 [(0, .int x0)] := hl
  show W p l e (zt_R 1 22) s m ([.int x0] : List Value).toArray below meth c s.heap [] 0 0 (MQ below (zt_Ci G r σ) ([.int x0] : List Value).toArray s 0 0 (zt_A G)) (F0 m 0 ls [])
  unfold f_X3_isStar at hf
  refine lv_iload_n hx hb dX3_isStar_0 rfl (lv_at hl 0 rfl) ?_
  refine lv_bipush (v := 10) hx hb dX3_isStar_1 (by decide +kernel) ?_
  refine lv_icmp_lt (tgt := 34) hx hb dX3_isStar_3 (by decide) (fun c1 => ?_) (fun c1 => ?_)
  · have hf := (if_pos c1).symm.trans hf
    refine lv_iconst (v := 0) hx hb dX3_isStar_34 (by decide) ?_
    exact W.zret hx hb hr (zt_bn (by decide)).1 (fun t ht hW => ⟨⟨_, _, rfl, ⟨Option.some.inj hf, rfl⟩, zt_go hE hP hS zt_id ht hW⟩, hS.F ht⟩) hS.2.2 dX3_isStar_35
  · have hf := (if_neg c1).symm.trans hf
    refine lv_iload_n hx hb dX3_isStar_6 rfl (lv_at hl 0 rfl) ?_
    refine lv_bipush (v := 10) hx hb dX3_isStar_7 (by decide +kernel) ?_
    refine lv_irem hx hb dX3_isStar_9 (by decide) ?_
    refine lv_if_ne (tgt := 34) hx hb dX3_isStar_10 (by decide) (fun c2 => ?_) (fun c2 => ?_)
    · have hf := (if_neg c2).symm.trans hf
      refine lv_iconst (v := 0) hx hb dX3_isStar_34 (by decide) ?_
      exact W.zret hx hb hr (zt_bn (by decide)).1 (fun t ht hW => ⟨⟨_, _, rfl, ⟨Option.some.inj hf, rfl⟩, zt_go hE hP hS zt_id ht hW⟩, hS.F ht⟩) hS.2.2 dX3_isStar_35
    · have hf := (if_pos c2).symm.trans hf
      refine lv_iload_n hx hb dX3_isStar_13 rfl (lv_at hl 0 rfl) ?_
      refine lv_bipush (v := 10) hx hb dX3_isStar_14 (by decide +kernel) ?_
      refine lv_idiv hx hb dX3_isStar_16 (by decide) ?_
      obtain ⟨v3, hvv3, hf⟩ := zt_bd_some hf
      refine va_calli (va_runS (As := [.int (x0 / 10)]) (rest := []) ⟨hx, hb, hml, hown, hts⟩ (m_X3_isName l G (σ := σ) hvv3) (va_cwS 1 hts gX3_isStar_X3_isName rfl rfl rfl zh_X3_isName ⟨Nat.le_of_ble_eq_true rfl, Nat.le_of_ble_eq_true rfl⟩) ⟨zt_blind, fun U hU hW => ⟨rfl, zt_go hE hP hS zt_id hU hW⟩⟩ rfl rfl hl.1 rfl (lv_room (Nat.le_of_ble_eq_true rfl)) dX3_isStar_17 ⟨Nat.zero_le _, Nat.zero_le _⟩) hS (fun _ _ h => h) (fun _ h => h) (fun r u t H locs ht hvm hw hB _ _ hS => ?_)
      rw [hw.1]; have hB : zt_B G u t := hB; rw [hw.2] at hB; have hP := zt_B.P hB ht
      refine lv_if_eq (tgt := 34) hx hb dX3_isStar_20 (by decide) (fun c5 => ?_) (fun c5 => ?_)
      · have hf := (if_pos c5).symm.trans hf
        refine lv_iconst (v := 0) hx hb dX3_isStar_34 (by decide) ?_
        exact W.zret hx hb hr (zt_bn (by decide)).1 (fun t ht hW => ⟨⟨_, _, rfl, ⟨Option.some.inj hf, rfl⟩, zt_go hE hP hS zt_id ht hW⟩, hS.F ht⟩) hS.2.2 dX3_isStar_35
      · have hf := (if_neg c5).symm.trans hf
        refine lv_iload_n hx hb dX3_isStar_23 rfl (lv_at hl 0 rfl) ?_
        refine lv_sipush (v := 9990) hx hb dX3_isStar_24 (by decide +kernel) ?_
        refine lv_icmp_gt (tgt := 34) hx hb dX3_isStar_27 (by decide) (fun c6 => ?_) (fun c6 => ?_)
        · have hf := (if_pos c6).symm.trans hf
          refine lv_iconst (v := 0) hx hb dX3_isStar_34 (by decide) ?_
          exact W.zret hx hb hr (zt_bn (by decide)).1 (fun t ht hW => ⟨⟨_, _, rfl, ⟨Option.some.inj hf, rfl⟩, zt_go hE hP hS zt_id ht hW⟩, hS.F ht⟩) hS.2.2 dX3_isStar_35
        · have hf := (if_neg c6).symm.trans hf
          refine lv_iconst (v := 1) hx hb dX3_isStar_30 (by decide) ?_
          refine lv_goto (tgt := 35) hx hb dX3_isStar_31 (by decide) ?_
          exact W.zret hx hb hr (zt_bn (by decide)).1 (fun t ht hW => ⟨⟨_, _, rfl, ⟨Option.some.inj hf, rfl⟩, zt_go hE hP hS zt_id ht hW⟩, hS.F ht⟩) hS.2.2 dX3_isStar_35

theorem zh_X4_isAnyElseUnder : yX4_isAnyElseUnder.cls = RX4 ∧ yX4_isAnyElseUnder.cls ≠ "java/lang/invoke/MethodHandle" ∧ yX4_isAnyElseUnder.cls ≠ "java/lang/invoke/VarHandle" ∧ (parseMethodDescriptor yX4_isAnyElseUnder.desc).map (fun d => d.parameters.length) = some 1 := by decide +kernel
set_option maxHeartbeats 4000000 in
set_option maxRecDepth 100000 in
theorem m_X4_isAnyElseUnder (l : Launch) (G : zt_G) {σ : zt_St} {k0 : Nat} (hk0 : zt_kd k0 = 3) {x1 : Int32} {r : Int32} (hf : f_X4_isAnyElseUnder σ k0 x1 = some r) : zt_Mi l G yX4_isAnyElseUnder wsX4_isAnyElseUnder 1 23 [.ref (zt_ad G k0), .int x1] σ r σ := by
  refine Met.ofW (cc := cX4_isAnyElseUnder) (maxL := 3) (ret := (some .boolean)) (by decide) rfl ?_
  intro p e s m args below meth c s₁ B hml hv
  obtain ⟨rfl, hBB⟩ := hv
  have hE := zt_B.env hBB; have hK := hE.2.1; have hP := hBB.2.1
  have hx := B.exec; have hb := B.bytes; have hr := B.returns; have hts := atoms_spec (ws := wsX4_isAnyElseUnder) B.pre
  have hown : s.vm.findClass RX4 = some m.cls := findClass_of_methodNamed B.named
  have hlocks := B.notSynchronized
  have hS : va_S (zt_A G) s.heap s.heap [] := va_S.rf
  have hl := lv_entry ([.ref (zt_ad G k0), .int x1]) (n := 3) (Nat.le_of_ble_eq_true rfl)
  rw [lg_entry_eq]
  generalize (lg_sl ([.ref (zt_ad G k0), .int x1]) ++ List.replicate (3 - (lg_sl ([.ref (zt_ad G k0), .int x1])).length) Slot.unset).toArray = ls at hl ⊢
  have hl : lv_has ls 3 [(0, .ref (zt_ad G k0)), (1, .int x1)] := hl
  show W p l e (zt_R 1 23) s m ([.ref (zt_ad G k0), .int x1] : List Value).toArray below meth c s.heap [] 0 0 (MQ below (zt_Ci G r σ) ([.ref (zt_ad G k0), .int x1] : List Value).toArray s 0 0 (zt_A G)) (F0 m 0 ls [])
  have fl9 := hts (.fieldLink RX4 9 "ZoneTree$Records" "places" "[I") (List.mem_cons_of_mem _ (List.mem_append_left _ (List.mem_of_getElem? (i := 1) rfl)))
  have fl24 := hts (.fieldLink RX4 24 "ZoneTree$Records" "count" "I") (List.mem_cons_of_mem _ (List.mem_append_left _ (List.mem_of_getElem? (i := 0) rfl)))
  have inX4 : ∀ w ∈ wsX40, w ∈ wsX4_isAnyElseUnder := fun w h => (List.mem_cons_of_mem _ (List.mem_append_right _ h))
  have B47 : ∀ (rc2 : Int32 → Int32 → Option (Int32)) (hrc2 : ∀ (u1 : Int32) (u2 : Int32) (H : Heap) (locs : List Loc) (ls : Array Slot), rc2 u1 u2 = some r → va_P (zt_D G) vwCl (zt_ww G σ) H → va_S (zt_A G) s.heap H locs → lv_has ls 3 [(0, .ref (zt_ad G k0)), (1, .int u1), (2, .int u2)] → W p l e (zt_R 1 23) s m ([.ref (zt_ad G k0), .int x1] : List Value).toArray below meth c H locs 0 0 (MQ below (zt_Ci G r σ) ([.ref (zt_ad G k0), .int x1] : List Value).toArray s 0 0 (zt_A G)) (F0 m 2 ls [])), ∀ (u1 : Int32) (u2 : Int32) (H : Heap) (locs : List Loc) (ls : Array Slot), f_X4_isAnyElseUnder_47 σ k0 rc2 u1 u2 = some r → va_P (zt_D G) vwCl (zt_ww G σ) H → va_S (zt_A G) s.heap H locs → lv_has ls 3 [(0, .ref (zt_ad G k0)), (1, .int u1), (2, .int u2)] → W p l e (zt_R 1 23) s m ([.ref (zt_ad G k0), .int x1] : List Value).toArray below meth c H locs 0 0 (MQ below (zt_Ci G r σ) ([.ref (zt_ad G k0), .int x1] : List Value).toArray s 0 0 (zt_A G)) (F0 m 47 ls []) := by
    intro rc2 hrc2 u1 u2 H locs ls hf hP hS hl
    unfold f_X4_isAnyElseUnder_47 at hf
    refine lv_iinc (v := (u2 + 1)) (lv' := [(2, .int (u2 + 1)), (0, .ref (zt_ad G k0)), (1, .int u1)]) hx hb dX4_isAnyElseUnder_47 hl (k := 2) rfl rfl (by decide) rfl (fun ls hl => ?_)
    refine lv_goto (tgt := 2) hx hb dX4_isAnyElseUnder_50 (by decide) ?_
    exact hrc2 u1 (u2 + 1) _ _ _ hf hP hS (lv_sub hl [1, 2, 0] rfl)
  have B2 : ∀ (n : Nat), ∀ (u1 : Int32) (u2 : Int32) (H : Heap) (locs : List Loc) (ls : Array Slot), f_X4_isAnyElseUnder_2 σ k0 n u1 u2 = some r → va_P (zt_D G) vwCl (zt_ww G σ) H → va_S (zt_A G) s.heap H locs → lv_has ls 3 [(0, .ref (zt_ad G k0)), (1, .int u1), (2, .int u2)] → W p l e (zt_R 1 23) s m ([.ref (zt_ad G k0), .int x1] : List Value).toArray below meth c H locs 0 0 (MQ below (zt_Ci G r σ) ([.ref (zt_ad G k0), .int x1] : List Value).toArray s 0 0 (zt_A G)) (F0 m 2 ls []) := by
    intro n
    induction n with
    | zero => intro u1 u2 H locs ls hf; exact nomatch hf
    | succ n hrc2 =>
      intro u1 u2 H locs ls hf hP hS hl
      generalize hrcg : f_X4_isAnyElseUnder_2 σ k0 n = rc2 at hrc2
      have hf : f_X4_isAnyElseUnder_2b σ k0 rc2 u1 u2 = some r := by rw [← hrcg]; exact hf
      unfold f_X4_isAnyElseUnder_2b at hf
      refine lv_iload_n hx hb dX4_isAnyElseUnder_2 rfl (lv_at hl 2 rfl) ?_
      refine lv_aload_n hx hb dX4_isAnyElseUnder_3 rfl (lv_at hl 0 rfl) ?_
      refine va_get (D := zt_D G) (ci := 3) (v := .int (σ k0 4)) (C := RX4) (T := TX4) (N := 5) hx hb hts inX4 hown hK hP k0 (zt_a3 hk0) rfl 4 (by decide) fl24 (fun _ h9 => h9) rfl dX4_isAnyElseUnder_4 ?_
      refine lv_icmp_ge (tgt := 53) hx hb dX4_isAnyElseUnder_7 (by decide) (fun c1 => ?_) (fun c1 => ?_)
      · have hf := (if_pos c1).symm.trans hf
        refine lv_iconst (v := 0) hx hb dX4_isAnyElseUnder_53 (by decide) ?_
        exact W.zret hx hb hr (zt_bn (by decide)).1 (fun t ht hW => ⟨⟨_, _, rfl, ⟨Option.some.inj hf, rfl⟩, zt_go hE hP hS zt_id ht hW⟩, hS.F ht⟩) hS.2.2 dX4_isAnyElseUnder_54
      · have hf := (if_neg c1).symm.trans hf
        refine lv_iload_n hx hb dX4_isAnyElseUnder_10 rfl (lv_at hl 2 rfl) ?_
        refine lv_aload_n hx hb dX4_isAnyElseUnder_11 rfl (lv_at hl 0 rfl) ?_
        refine va_get (D := zt_D G) (ci := 3) (v := .ref (zt_ad G (k0 + 1))) (C := RX4) (T := TX4) (N := 5) hx hb hts inX4 hown hK hP k0 (zt_a3 hk0) rfl 0 (by decide) fl9 (fun _ h9 => h9) rfl dX4_isAnyElseUnder_12 ?_
        refine va_alen hx hb hK hP (k0 + 1) 0 (zt_a9 (zt_k3_0 hk0)) rfl (v := Int32.ofNat (zt_ln (k0 + 1))) rfl dX4_isAnyElseUnder_15 ?_
        refine lv_icmp_ge (tgt := 53) hx hb dX4_isAnyElseUnder_16 (by decide) (fun c2 => ?_) (fun c2 => ?_)
        · have hf := (if_pos c2).symm.trans hf
          refine lv_iconst (v := 0) hx hb dX4_isAnyElseUnder_53 (by decide) ?_
          exact W.zret hx hb hr (zt_bn (by decide)).1 (fun t ht hW => ⟨⟨_, _, rfl, ⟨Option.some.inj hf, rfl⟩, zt_go hE hP hS zt_id ht hW⟩, hS.F ht⟩) hS.2.2 dX4_isAnyElseUnder_54
        · have hf := (if_neg c2).symm.trans hf
          refine lv_aload_n hx hb dX4_isAnyElseUnder_19 rfl (lv_at hl 0 rfl) ?_
          refine va_get (D := zt_D G) (ci := 3) (v := .ref (zt_ad G (k0 + 1))) (C := RX4) (T := TX4) (N := 5) hx hb hts inX4 hown hK hP k0 (zt_a3 hk0) rfl 0 (by decide) fl9 (fun _ h9 => h9) rfl dX4_isAnyElseUnder_20 ?_
          refine lv_iload_n hx hb dX4_isAnyElseUnder_23 rfl (lv_at hl 2 rfl) ?_
          obtain ⟨g3, hf⟩ := zt_gd_some hf
          refine va_iald hx hb hK hP (k0 + 1) 0 (zt_a9 (zt_k3_0 hk0)) rfl (zt_gI_in g3) dX4_isAnyElseUnder_24 ?_
          refine lv_iload_n hx hb dX4_isAnyElseUnder_25 rfl (lv_at hl 1 rfl) ?_
          refine lv_icmp_eq (tgt := 47) hx hb dX4_isAnyElseUnder_26 (by decide) (fun c4 => ?_) (fun c4 => ?_)
          · have hf := (if_pos c4).symm.trans hf
            exact B47 rc2 hrc2 u1 u2 _ _ _ hf hP hS (lv_sub hl [0, 1, 2] rfl)
          · have hf := (if_neg c4).symm.trans hf
            refine lv_aload_n hx hb dX4_isAnyElseUnder_29 rfl (lv_at hl 0 rfl) ?_
            refine va_get (D := zt_D G) (ci := 3) (v := .ref (zt_ad G (k0 + 1))) (C := RX4) (T := TX4) (N := 5) hx hb hts inX4 hown hK hP k0 (zt_a3 hk0) rfl 0 (by decide) fl9 (fun _ h9 => h9) rfl dX4_isAnyElseUnder_30 ?_
            refine lv_iload_n hx hb dX4_isAnyElseUnder_33 rfl (lv_at hl 2 rfl) ?_
            obtain ⟨g5, hf⟩ := zt_gd_some hf
            refine va_iald hx hb hK hP (k0 + 1) 0 (zt_a9 (zt_k3_0 hk0)) rfl (zt_gI_in g5) dX4_isAnyElseUnder_34 ?_
            obtain ⟨v6, hvv6, hf⟩ := zt_bd_some hf
            refine va_calli (va_runS (As := [.int (σ (k0 + 1) u2.toNatClampNeg)]) (rest := []) ⟨hx, hb, hml, hown, hts⟩ (m_X3_nameOf l G (σ := σ) hvv6) (va_cwS 1 hts gX4_isAnyElseUnder_X3_nameOf rfl rfl rfl zh_X3_nameOf ⟨Nat.le_of_ble_eq_true rfl, Nat.le_of_ble_eq_true rfl⟩) ⟨zt_blind, fun U hU hW => ⟨rfl, zt_go hE hP hS zt_id hU hW⟩⟩ rfl rfl hl.1 rfl (lv_room (Nat.le_of_ble_eq_true rfl)) dX4_isAnyElseUnder_35 ⟨Nat.zero_le _, Nat.zero_le _⟩) hS (fun _ _ h => h) (fun _ h => h) (fun r u t H locs ht hvm hw hB _ _ hS => ?_)
            rw [hw.1]; have hB : zt_B G u t := hB; rw [hw.2] at hB; have hP := zt_B.P hB ht
            refine lv_iload_n hx hb dX4_isAnyElseUnder_38 rfl (lv_at hl 1 rfl) ?_
            obtain ⟨v8, hvv8, hf⟩ := zt_bd_some hf
            refine va_calli (va_runS (As := [.int v6, .int u1]) (rest := []) ⟨hx, hb, hml, hown, hts⟩ (m_X3_isUnder l G (σ := σ) hvv8) (va_cwS 2 hts gX4_isAnyElseUnder_X3_isUnder rfl rfl rfl zh_X3_isUnder ⟨Nat.le_of_ble_eq_true rfl, Nat.le_of_ble_eq_true rfl⟩) ⟨zt_blind, fun U hU hW => ⟨rfl, zt_go hE hP hS zt_id hU hW⟩⟩ rfl rfl hl.1 rfl (lv_room (Nat.le_of_ble_eq_true rfl)) dX4_isAnyElseUnder_39 ⟨Nat.zero_le _, Nat.zero_le _⟩) hS (fun _ _ h => h) (fun _ h => h) (fun r u t H locs ht hvm hw hB _ _ hS => ?_)
            rw [hw.1]; have hB : zt_B G u t := hB; rw [hw.2] at hB; have hP := zt_B.P hB ht
            refine lv_if_eq (tgt := 47) hx hb dX4_isAnyElseUnder_42 (by decide) (fun c10 => ?_) (fun c10 => ?_)
            · have hf := (if_pos c10).symm.trans hf
              exact B47 rc2 hrc2 u1 u2 _ _ _ hf hP hS (lv_sub hl [0, 1, 2] rfl)
            · have hf := (if_neg c10).symm.trans hf
              refine lv_iconst (v := 1) hx hb dX4_isAnyElseUnder_45 (by decide) ?_
              exact W.zret hx hb hr (zt_bn (by decide)).1 (fun t ht hW => ⟨⟨_, _, rfl, ⟨Option.some.inj hf, rfl⟩, zt_go hE hP hS zt_id ht hW⟩, hS.F ht⟩) hS.2.2 dX4_isAnyElseUnder_46
  unfold f_X4_isAnyElseUnder at hf
  refine lv_iconst (v := 0) hx hb dX4_isAnyElseUnder_0 (by decide) ?_
  refine lv_istore_n (lv' := [(2, .int 0), (0, .ref (zt_ad G k0)), (1, .int x1)]) hx hb dX4_isAnyElseUnder_1 rfl hl (by decide) rfl (fun ls hl => ?_)
  exact B2 zt_FU x1 0 _ _ _ hf hP hS (lv_sub hl [1, 2, 0] rfl)

theorem zh_X3_isPlace : yX3_isPlace.cls ≠ "java/lang/invoke/MethodHandle" ∧ yX3_isPlace.cls ≠ "java/lang/invoke/VarHandle" ∧ (parseMethodDescriptor yX3_isPlace.desc).map (fun d => d.parameters.length) = some 1 := by decide +kernel
set_option maxHeartbeats 4000000 in
set_option maxRecDepth 100000 in
theorem m_X3_isPlace (l : Launch) (G : zt_G) {σ : zt_St} {x0 : Int32} {r : Int32} (hf : f_X3_isPlace x0 = some r) : zt_Mi l G yX3_isPlace wsX3_isPlace 2 42 [.int x0] σ r σ := by
  refine Met.ofW (cc := cX3_isPlace) (maxL := 1) (ret := (some .boolean)) (by decide) rfl ?_
  intro p e s m args below meth c s₁ B hml hv
  obtain ⟨rfl, hBB⟩ := hv
  have hE := zt_B.env hBB; have hK := hE.2.1; have hP := hBB.2.1
  have hx := B.exec; have hb := B.bytes; have hr := B.returns; have hts := atoms_spec (ws := wsX3_isPlace) B.pre
  have hown : s.vm.findClass RX3 = some m.cls := findClass_of_methodNamed B.named
  have hlocks := B.notSynchronized
  have hS : va_S (zt_A G) s.heap s.heap [] := va_S.rf
  have hl := lv_entry ([.int x0]) (n := 1) (Nat.le_of_ble_eq_true rfl)
  rw [lg_entry_eq]
  generalize (lg_sl ([.int x0]) ++ List.replicate (1 - (lg_sl ([.int x0])).length) Slot.unset).toArray = ls at hl ⊢
  have hl : lv_has ls 1 [(0, .int x0)] := hl
  show W p l e (zt_R 2 42) s m ([.int x0] : List Value).toArray below meth c s.heap [] 0 0 (MQ below (zt_Ci G r σ) ([.int x0] : List Value).toArray s 0 0 (zt_A G)) (F0 m 0 ls [])
  have B14 : ∀ (H : Heap) (locs : List Loc) (ls : Array Slot), f_X3_isPlace_14 = some r → va_P (zt_D G) vwCl (zt_ww G σ) H → va_S (zt_A G) s.heap H locs → lv_has ls 1 [] → W p l e (zt_R 2 42) s m ([.int x0] : List Value).toArray below meth c H locs 0 0 (MQ below (zt_Ci G r σ) ([.int x0] : List Value).toArray s 0 0 (zt_A G)) (F0 m 14 ls []) := by
    intro H locs ls hf hP hS hl
    unfold f_X3_isPlace_14 at hf
    refine lv_iconst (v := 1) hx hb dX3_isPlace_14 (by decide) ?_
    refine lv_goto (tgt := 19) hx hb dX3_isPlace_15 (by decide) ?_
    exact W.zret hx hb hr (zt_bn (by decide)).1 (fun t ht hW => ⟨⟨_, _, rfl, ⟨Option.some.inj hf, rfl⟩, zt_go hE hP hS zt_id ht hW⟩, hS.F ht⟩) hS.2.2 dX3_isPlace_19
  unfold f_X3_isPlace at hf
  refine lv_iload_n hx hb dX3_isPlace_0 rfl (lv_at hl 0 rfl) ?_
  obtain ⟨v1, hvv1, hf⟩ := zt_bd_some hf
  refine va_calli (va_runS (As := [.int x0]) (rest := []) ⟨hx, hb, hml, hown, hts⟩ (m_X3_isName l G (σ := σ) hvv1) (va_cwS 1 hts gX3_isPlace_X3_isName rfl rfl rfl zh_X3_isName ⟨Nat.le_of_ble_eq_true rfl, Nat.le_of_ble_eq_true rfl⟩) ⟨zt_blind, fun U hU hW => ⟨rfl, zt_go hE hP hS zt_id hU hW⟩⟩ rfl rfl hl.1 rfl (lv_room (Nat.le_of_ble_eq_true rfl)) dX3_isPlace_1 ⟨Nat.zero_le _, Nat.zero_le _⟩) hS (fun _ _ h => h) (fun _ h => h) (fun r u t H locs ht hvm hw hB _ _ hS => ?_)
  rw [hw.1]; have hB : zt_B G u t := hB; rw [hw.2] at hB; have hP := zt_B.P hB ht
  refine lv_if_ne (tgt := 14) hx hb dX3_isPlace_4 (by decide) (fun c3 => ?_) (fun c3 => ?_)
  · have hf := (if_neg c3).symm.trans hf
    exact B14 _ _ _ hf hP hS (lv_sub hl [] rfl)
  · have hf := (if_pos c3).symm.trans hf
    refine lv_iload_n hx hb dX3_isPlace_7 rfl (lv_at hl 0 rfl) ?_
    obtain ⟨v4, hvv4, hf⟩ := zt_bd_some hf
    refine va_calli (va_runS (As := [.int x0]) (rest := []) ⟨hx, hb, hml, hown, hts⟩ (m_X3_isStar l G (σ := σ) hvv4) (va_cwS 1 hts gX3_isPlace_X3_isStar rfl rfl rfl zh_X3_isStar ⟨Nat.le_of_ble_eq_true rfl, Nat.le_of_ble_eq_true rfl⟩) ⟨zt_blind, fun U hU hW => ⟨rfl, zt_go hE hP hS zt_id hU hW⟩⟩ rfl rfl hl.1 rfl (lv_room (Nat.le_of_ble_eq_true rfl)) dX3_isPlace_8 ⟨Nat.zero_le _, Nat.zero_le _⟩) hS (fun _ _ h => h) (fun _ h => h) (fun r u t H locs ht hvm hw hB _ _ hS => ?_)
    rw [hw.1]; have hB : zt_B G u t := hB; rw [hw.2] at hB; have hP := zt_B.P hB ht
    refine lv_if_eq (tgt := 18) hx hb dX3_isPlace_11 (by decide) (fun c6 => ?_) (fun c6 => ?_)
    · have hf := (if_pos c6).symm.trans hf
      refine lv_iconst (v := 0) hx hb dX3_isPlace_18 (by decide) ?_
      exact W.zret hx hb hr (zt_bn (by decide)).1 (fun t ht hW => ⟨⟨_, _, rfl, ⟨Option.some.inj hf, rfl⟩, zt_go hE hP hS zt_id ht hW⟩, hS.F ht⟩) hS.2.2 dX3_isPlace_19
    · have hf := (if_neg c6).symm.trans hf
      exact B14 _ _ _ hf hP hS (lv_sub hl [] rfl)

theorem zh_X3_power : yX3_power.cls ≠ "java/lang/invoke/MethodHandle" ∧ yX3_power.cls ≠ "java/lang/invoke/VarHandle" ∧ (parseMethodDescriptor yX3_power.desc).map (fun d => d.parameters.length) = some 1 := by decide +kernel
set_option maxHeartbeats 4000000 in
set_option maxRecDepth 100000 in
theorem m_X3_power (l : Launch) (G : zt_G) {σ : zt_St} {x0 : Int32} {r : Int32} (hf : f_X3_power x0 = some r) : zt_Mi l G yX3_power wsX3_power 0 0 [.int x0] σ r σ := by
  refine Met.ofW (cc := cX3_power) (maxL := 1) (ret := (some .int)) (by decide) rfl ?_
  intro p e s m args below meth c s₁ B hml hv
  obtain ⟨rfl, hBB⟩ := hv
  have hE := zt_B.env hBB; have hK := hE.2.1; have hP := hBB.2.1
  have hx := B.exec; have hb := B.bytes; have hr := B.returns; have hts := atoms_spec (ws := wsX3_power) B.pre
  have hown : s.vm.findClass RX3 = some m.cls := findClass_of_methodNamed B.named
  have hlocks := B.notSynchronized
  have hS : va_S (zt_A G) s.heap s.heap [] := va_S.rf
  have hl := lv_entry ([.int x0]) (n := 1) (Nat.le_of_ble_eq_true rfl)
  rw [lg_entry_eq]
  generalize (lg_sl ([.int x0]) ++ List.replicate (1 - (lg_sl ([.int x0])).length) Slot.unset).toArray = ls at hl ⊢
  have hl : lv_has ls 1 [(0, .int x0)] := hl
  show W p l e (zt_R 0 0) s m ([.int x0] : List Value).toArray below meth c s.heap [] 0 0 (MQ below (zt_Ci G r σ) ([.int x0] : List Value).toArray s 0 0 (zt_A G)) (F0 m 0 ls [])
  have fl22 := hts (.fieldLink RX3 22 "ZoneTree$Names" "POWERS" "[I") (List.mem_cons_of_mem _ (List.mem_of_getElem? (i := 0) rfl))
  unfold f_X3_power at hf
  refine lv_iload_n hx hb dX3_power_0 rfl (lv_at hl 0 rfl) ?_
  refine lv_if_lt (tgt := 20) hx hb dX3_power_1 (by decide) (fun c1 => ?_) (fun c1 => ?_)
  · have hf := (if_pos c1).symm.trans hf
    refine lv_iconst (v := 1) hx hb dX3_power_20 (by decide) ?_
    exact W.iret hx hb hr (fun t ht hW => ⟨⟨_, _, rfl, ⟨Option.some.inj hf, rfl⟩, zt_go hE hP hS zt_id ht hW⟩, hS.F ht⟩) hS.2.2 dX3_power_21
  · have hf := (if_neg c1).symm.trans hf
    refine lv_iload_n hx hb dX3_power_4 rfl (lv_at hl 0 rfl) ?_
    refine va_gets hx hb hE.2.2.2.1 hS hown fl22 (fun _ h9 => h9) dX3_power_5 ?_
    refine va_tlen hx hb hE.2.2.2.2 hS (v := 5) (by decide) dX3_power_8 ?_
    refine lv_icmp_ge (tgt := 20) hx hb dX3_power_9 (by decide) (fun c2 => ?_) (fun c2 => ?_)
    · have hf := (if_pos c2).symm.trans hf
      refine lv_iconst (v := 1) hx hb dX3_power_20 (by decide) ?_
      exact W.iret hx hb hr (fun t ht hW => ⟨⟨_, _, rfl, ⟨Option.some.inj hf, rfl⟩, zt_go hE hP hS zt_id ht hW⟩, hS.F ht⟩) hS.2.2 dX3_power_21
    · have hf := (if_neg c2).symm.trans hf
      refine va_gets hx hb hE.2.2.2.1 hS hown fl22 (fun _ h9 => h9) dX3_power_12 ?_
      refine lv_iload_n hx hb dX3_power_15 rfl (lv_at hl 0 rfl) ?_
      obtain ⟨g3, hf⟩ := zt_gd_some hf
      refine va_ti hx hb hE.2.2.2.2 hS (zt_gI_in g3) (v := .int (zt_pw x0.toNatClampNeg)) rfl dX3_power_16 ?_
      refine lv_goto (tgt := 21) hx hb dX3_power_17 (by decide) ?_
      exact W.iret hx hb hr (fun t ht hW => ⟨⟨_, _, rfl, ⟨Option.some.inj hf, rfl⟩, zt_go hE hP hS zt_id ht hW⟩, hS.F ht⟩) hS.2.2 dX3_power_21

theorem zh_X3_figures : yX3_figures.cls ≠ "java/lang/invoke/MethodHandle" ∧ yX3_figures.cls ≠ "java/lang/invoke/VarHandle" ∧ (parseMethodDescriptor yX3_figures.desc).map (fun d => d.parameters.length) = some 1 := by decide +kernel
set_option maxHeartbeats 4000000 in
set_option maxRecDepth 100000 in
theorem m_X3_figures (l : Launch) (G : zt_G) {σ : zt_St} {x0 : Int32} {r : Int32} (hf : f_X3_figures x0 = some r) : zt_Mi l G yX3_figures wsX3_figures 1 20 [.int x0] σ r σ := by
  refine Met.ofW (cc := cX3_figures) (maxL := 3) (ret := (some .int)) (by decide) rfl ?_
  intro p e s m args below meth c s₁ B hml hv
  obtain ⟨rfl, hBB⟩ := hv
  have hE := zt_B.env hBB; have hK := hE.2.1; have hP := hBB.2.1
  have hx := B.exec; have hb := B.bytes; have hr := B.returns; have hts := atoms_spec (ws := wsX3_figures) B.pre
  have hown : s.vm.findClass RX3 = some m.cls := findClass_of_methodNamed B.named
  have hlocks := B.notSynchronized
  have hS : va_S (zt_A G) s.heap s.heap [] := va_S.rf
  have hl := lv_entry ([.int x0]) (n := 3) (Nat.le_of_ble_eq_true rfl)
  rw [lg_entry_eq]
  generalize (lg_sl ([.int x0]) ++ List.replicate (3 - (lg_sl ([.int x0])).length) Slot.unset).toArray = ls at hl ⊢
  have hl : lv_has ls 3 [(0, .int x0)] := hl
  show W p l e (zt_R 1 20) s m ([.int x0] : List Value).toArray below meth c s.heap [] 0 0 (MQ below (zt_Ci G r σ) ([.int x0] : List Value).toArray s 0 0 (zt_A G)) (F0 m 0 ls [])
  have B4 : ∀ (n : Nat), ∀ (u0 : Int32) (u1 : Int32) (u2 : Int32) (H : Heap) (locs : List Loc) (ls : Array Slot), f_X3_figures_4 n u0 u1 u2 = some r → va_P (zt_D G) vwCl (zt_ww G σ) H → va_S (zt_A G) s.heap H locs → lv_has ls 3 [(0, .int u0), (1, .int u1), (2, .int u2)] → W p l e (zt_R 1 20) s m ([.int x0] : List Value).toArray below meth c H locs 0 0 (MQ below (zt_Ci G r σ) ([.int x0] : List Value).toArray s 0 0 (zt_A G)) (F0 m 4 ls []) := by
    intro n
    induction n with
    | zero => intro u0 u1 u2 H locs ls hf; exact nomatch hf
    | succ n hrc4 =>
      intro u0 u1 u2 H locs ls hf hP hS hl
      generalize hrcg : f_X3_figures_4 n = rc4 at hrc4
      have hf : f_X3_figures_4b rc4 u0 u1 u2 = some r := by rw [← hrcg]; exact hf
      unfold f_X3_figures_4b at hf
      refine lv_iload_n hx hb dX3_figures_4 rfl (lv_at hl 2 rfl) ?_
      refine lv_iconst (v := 4) hx hb dX3_figures_5 (by decide) ?_
      refine lv_icmp_ge (tgt := 26) hx hb dX3_figures_6 (by decide) (fun c1 => ?_) (fun c1 => ?_)
      · have hf := (if_pos c1).symm.trans hf
        refine lv_iload_n hx hb dX3_figures_26 rfl (lv_at hl 1 rfl) ?_
        exact W.iret hx hb hr (fun t ht hW => ⟨⟨_, _, rfl, ⟨Option.some.inj hf, rfl⟩, zt_go hE hP hS zt_id ht hW⟩, hS.F ht⟩) hS.2.2 dX3_figures_27
      · have hf := (if_neg c1).symm.trans hf
        refine lv_iload_n hx hb dX3_figures_9 rfl (lv_at hl 0 rfl) ?_
        refine lv_iload_n hx hb dX3_figures_10 rfl (lv_at hl 2 rfl) ?_
        obtain ⟨v2, hvv2, hf⟩ := zt_bd_some hf
        refine va_calli (va_runS (As := [.int u2]) (rest := [.int u0]) ⟨hx, hb, hml, hown, hts⟩ (m_X3_power l G (σ := σ) hvv2) (va_cwS 1 hts gX3_figures_X3_power rfl rfl rfl zh_X3_power ⟨Nat.le_of_ble_eq_true rfl, Nat.le_of_ble_eq_true rfl⟩) ⟨zt_blind, fun U hU hW => ⟨rfl, zt_go hE hP hS zt_id hU hW⟩⟩ rfl rfl hl.1 rfl (lv_room (Nat.le_of_ble_eq_true rfl)) dX3_figures_11 ⟨Nat.zero_le _, Nat.zero_le _⟩) hS (fun _ _ h => h) (fun _ h => h) (fun r u t H locs ht hvm hw hB _ _ hS => ?_)
        rw [hw.1]; have hB : zt_B G u t := hB; rw [hw.2] at hB; have hP := zt_B.P hB ht
        refine lv_icmp_lt (tgt := 26) hx hb dX3_figures_14 (by decide) (fun c4 => ?_) (fun c4 => ?_)
        · have hf := (if_pos c4).symm.trans hf
          refine lv_iload_n hx hb dX3_figures_26 rfl (lv_at hl 1 rfl) ?_
          exact W.iret hx hb hr (fun t ht hW => ⟨⟨_, _, rfl, ⟨Option.some.inj hf, rfl⟩, zt_go hE hP hS zt_id ht hW⟩, hS.F ht⟩) hS.2.2 dX3_figures_27
        · have hf := (if_neg c4).symm.trans hf
          refine lv_iinc (v := (u1 + 1)) (lv' := [(1, .int (u1 + 1)), (0, .int u0), (2, .int u2)]) hx hb dX3_figures_17 hl (k := 1) rfl rfl (by decide) rfl (fun ls hl => ?_)
          refine lv_iinc (v := (u2 + 1)) (lv' := [(2, .int (u2 + 1)), (1, .int (u1 + 1)), (0, .int u0)]) hx hb dX3_figures_20 hl (k := 2) rfl rfl (by decide) rfl (fun ls hl => ?_)
          refine lv_goto (tgt := 4) hx hb dX3_figures_23 (by decide) ?_
          exact hrc4 u0 (u1 + 1) (u2 + 1) _ _ _ hf hP hS (lv_sub hl [2, 1, 0] rfl)
  unfold f_X3_figures at hf
  refine lv_iconst (v := 0) hx hb dX3_figures_0 (by decide) ?_
  refine lv_istore_n (lv' := [(1, .int 0), (0, .int x0)]) hx hb dX3_figures_1 rfl hl (by decide) rfl (fun ls hl => ?_)
  refine lv_iconst (v := 0) hx hb dX3_figures_2 (by decide) ?_
  refine lv_istore_n (lv' := [(2, .int 0), (1, .int 0), (0, .int x0)]) hx hb dX3_figures_3 rfl hl (by decide) rfl (fun ls hl => ?_)
  exact B4 zt_FU x0 0 0 _ _ _ hf hP hS (lv_sub hl [2, 1, 0] rfl)

theorem zh_X3_moved : yX3_moved.cls ≠ "java/lang/invoke/MethodHandle" ∧ yX3_moved.cls ≠ "java/lang/invoke/VarHandle" ∧ (parseMethodDescriptor yX3_moved.desc).map (fun d => d.parameters.length) = some 3 := by decide +kernel
set_option maxHeartbeats 4000000 in
set_option maxRecDepth 100000 in
theorem m_X3_moved (l : Launch) (G : zt_G) {σ : zt_St} {x0 : Int32} {x1 : Int32} {x2 : Int32} {r : Int32} (hf : f_X3_moved x0 x1 x2 = some r) : zt_Mi l G yX3_moved wsX3_moved 2 42 [.int x0, .int x1, .int x2] σ r σ := by
  refine Met.ofW (cc := cX3_moved) (maxL := 5) (ret := (some .int)) (by decide) rfl ?_
  intro p e s m args below meth c s₁ B hml hv
  obtain ⟨rfl, hBB⟩ := hv
  have hE := zt_B.env hBB; have hK := hE.2.1; have hP := hBB.2.1
  have hx := B.exec; have hb := B.bytes; have hr := B.returns; have hts := atoms_spec (ws := wsX3_moved) B.pre
  have hown : s.vm.findClass RX3 = some m.cls := findClass_of_methodNamed B.named
  have hlocks := B.notSynchronized
  have hS : va_S (zt_A G) s.heap s.heap [] := va_S.rf
  have hl := lv_entry ([.int x0, .int x1, .int x2]) (n := 5) (Nat.le_of_ble_eq_true rfl)
  rw [lg_entry_eq]
  generalize (lg_sl ([.int x0, .int x1, .int x2]) ++ List.replicate (5 - (lg_sl ([.int x0, .int x1, .int x2])).length) Slot.unset).toArray = ls at hl ⊢
  have hl : lv_has ls 5 [(0, .int x0), (1, .int x1), (2, .int x2)] := hl
  show W p l e (zt_R 2 42) s m ([.int x0, .int x1, .int x2] : List Value).toArray below meth c s.heap [] 0 0 (MQ below (zt_Ci G r σ) ([.int x0, .int x1, .int x2] : List Value).toArray s 0 0 (zt_A G)) (F0 m 0 ls [])
  unfold f_X3_moved at hf
  refine lv_iload_n hx hb dX3_moved_0 rfl (lv_at hl 0 rfl) ?_
  obtain ⟨v1, hvv1, hf⟩ := zt_bd_some hf
  refine va_calli (va_runS (As := [.int x0]) (rest := []) ⟨hx, hb, hml, hown, hts⟩ (m_X3_figures l G (σ := σ) hvv1) (va_cwS 1 hts gX3_moved_X3_figures rfl rfl rfl zh_X3_figures ⟨Nat.le_of_ble_eq_true rfl, Nat.le_of_ble_eq_true rfl⟩) ⟨zt_blind, fun U hU hW => ⟨rfl, zt_go hE hP hS zt_id hU hW⟩⟩ rfl rfl hl.1 rfl (lv_room (Nat.le_of_ble_eq_true rfl)) dX3_moved_1 ⟨Nat.zero_le _, Nat.zero_le _⟩) hS (fun _ _ h => h) (fun _ h => h) (fun r u t H locs ht hvm hw hB _ _ hS => ?_)
  rw [hw.1]; have hB : zt_B G u t := hB; rw [hw.2] at hB; have hP := zt_B.P hB ht
  refine lv_iload_n hx hb dX3_moved_4 rfl (lv_at hl 1 rfl) ?_
  obtain ⟨v3, hvv3, hf⟩ := zt_bd_some hf
  refine va_calli (va_runS (As := [.int x1]) (rest := [.int v1]) ⟨hx, hb, hml, hown, hts⟩ (m_X3_figures l G (σ := σ) hvv3) (va_cwS 1 hts gX3_moved_X3_figures rfl rfl rfl zh_X3_figures ⟨Nat.le_of_ble_eq_true rfl, Nat.le_of_ble_eq_true rfl⟩) ⟨zt_blind, fun U hU hW => ⟨rfl, zt_go hE hP hS zt_id hU hW⟩⟩ rfl rfl hl.1 rfl (lv_room (Nat.le_of_ble_eq_true rfl)) dX3_moved_5 ⟨Nat.zero_le _, Nat.zero_le _⟩) hS (fun _ _ h => h) (fun _ h => h) (fun r u t H locs ht hvm hw hB _ _ hS => ?_)
  rw [hw.1]; have hB : zt_B G u t := hB; rw [hw.2] at hB; have hP := zt_B.P hB ht
  refine lv_isub hx hb dX3_moved_8 ?_
  refine lv_istore_n (lv' := [(3, .int (v1 - v3)), (0, .int x0), (1, .int x1), (2, .int x2)]) hx hb dX3_moved_9 rfl hl (by decide) rfl (fun ls hl => ?_)
  refine lv_iload_n hx hb dX3_moved_10 rfl (lv_at hl 0 rfl) ?_
  refine lv_iload_n hx hb dX3_moved_11 rfl (lv_at hl 3 rfl) ?_
  obtain ⟨v5, hvv5, hf⟩ := zt_bd_some hf
  refine va_calli (va_runS (As := [.int x2]) (rest := [.int (v1 - v3)]) ⟨hx, hb, hml, hown, hts⟩ (m_X3_figures l G (σ := σ) hvv5) (va_cwS 1 hts gX3_moved_X3_figures rfl rfl rfl zh_X3_figures ⟨Nat.le_of_ble_eq_true rfl, Nat.le_of_ble_eq_true rfl⟩) ⟨zt_blind, fun U hU hW => ⟨rfl, zt_go hE hP hS zt_id hU hW⟩⟩ rfl rfl hl.1 rfl (lv_room (Nat.le_of_ble_eq_true rfl)) dX3_moved_12 ⟨Nat.zero_le _, Nat.zero_le _⟩) hS (fun _ _ h => h) (fun _ h => h) (fun r u t H locs ht hvm hw hB _ _ hS => ?_)
  rw [hw.1]; have hB : zt_B G u t := hB; rw [hw.2] at hB; have hP := zt_B.P hB ht
  refine lv_iadd hx hb dX3_moved_15 ?_
  refine lv_iconst (v := 4) hx hb dX3_moved_16 (by decide) ?_
  refine lv_icmp_le (tgt := 22) hx hb dX3_moved_17 (by decide) (fun c7 => ?_) (fun c7 => ?_)
  · have hf := (if_pos c7).symm.trans hf
    refine lv_iload_n hx hb dX3_moved_22 rfl (lv_at hl 0 rfl) ?_
    obtain ⟨v8, hvv8, hf⟩ := zt_bd_some hf
    refine va_calli (va_runS (As := [.int (v1 - v3)]) (rest := []) ⟨hx, hb, hml, hown, hts⟩ (m_X3_power l G (σ := σ) hvv8) (va_cwS 1 hts gX3_moved_X3_power rfl rfl rfl zh_X3_power ⟨Nat.le_of_ble_eq_true rfl, Nat.le_of_ble_eq_true rfl⟩) ⟨zt_blind, fun U hU hW => ⟨rfl, zt_go hE hP hS zt_id hU hW⟩⟩ rfl rfl hl.1 rfl (lv_room (Nat.le_of_ble_eq_true rfl)) dX3_moved_23 ⟨Nat.zero_le _, Nat.zero_le _⟩) hS (fun _ _ h => h) (fun _ h => h) (fun r u t H locs ht hvm hw hB _ _ hS => ?_)
    rw [hw.1]; have hB : zt_B G u t := hB; rw [hw.2] at hB; have hP := zt_B.P hB ht
    refine lv_istore (lv' := [(4, .int v8), (3, .int (v1 - v3)), (0, .int x0), (1, .int x1), (2, .int x2)]) hx hb dX3_moved_26 hl (by decide) rfl (fun ls hl => ?_)
    refine lv_iload hx hb dX3_moved_28 (lv_at hl 0 rfl) ?_
    refine lv_iconst (v := 1) hx hb dX3_moved_30 (by decide) ?_
    refine lv_icmp_ge (tgt := 38) hx hb dX3_moved_31 (by decide) (fun c10 => ?_) (fun c10 => ?_)
    · have hf := (if_pos c10).symm.trans hf
      refine lv_iload_n hx hb dX3_moved_38 rfl (lv_at hl 4 rfl) ?_
      refine lv_iload hx hb dX3_moved_39 (lv_at hl 0 rfl) ?_
      refine lv_imul hx hb dX3_moved_41 ?_
      refine lv_iload_n hx hb dX3_moved_42 rfl (lv_at hl 2 rfl) ?_
      refine lv_iload hx hb dX3_moved_43 (lv_at hl 0 rfl) ?_
      obtain ⟨g11, hf⟩ := zt_gd_some hf
      refine lv_irem hx hb dX3_moved_45 (zt_nz0 g11) ?_
      refine lv_iadd hx hb dX3_moved_46 ?_
      exact W.iret hx hb hr (fun t ht hW => ⟨⟨_, _, rfl, ⟨Option.some.inj hf, rfl⟩, zt_go hE hP hS zt_id ht hW⟩, hS.F ht⟩) hS.2.2 dX3_moved_47
    · have hf := (if_neg c10).symm.trans hf
      refine lv_iconst (v := (-1)) hx hb dX3_moved_34 (by decide) ?_
      refine lv_goto (tgt := 47) hx hb dX3_moved_35 (by decide) ?_
      exact W.iret hx hb hr (fun t ht hW => ⟨⟨_, _, rfl, ⟨Option.some.inj hf, rfl⟩, zt_go hE hP hS zt_id ht hW⟩, hS.F ht⟩) hS.2.2 dX3_moved_47
  · have hf := (if_neg c7).symm.trans hf
    refine lv_iconst (v := (-1)) hx hb dX3_moved_20 (by decide) ?_
    exact W.iret hx hb hr (fun t ht hW => ⟨⟨_, _, rfl, ⟨Option.some.inj hf, rfl⟩, zt_go hE hP hS zt_id ht hW⟩, hS.F ht⟩) hS.2.2 dX3_moved_21

theorem zh_X3_order : yX3_order.cls ≠ "java/lang/invoke/MethodHandle" ∧ yX3_order.cls ≠ "java/lang/invoke/VarHandle" ∧ (parseMethodDescriptor yX3_order.desc).map (fun d => d.parameters.length) = some 1 := by decide +kernel
set_option maxHeartbeats 4000000 in
set_option maxRecDepth 100000 in
theorem m_X3_order (l : Launch) (G : zt_G) {σ : zt_St} {x0 : Int32} {r : Int32} (hf : f_X3_order x0 = some r) : zt_Mi l G yX3_order wsX3_order 2 42 [.int x0] σ r σ := by
  refine Met.ofW (cc := cX3_order) (maxL := 5) (ret := (some .int)) (by decide) rfl ?_
  intro p e s m args below meth c s₁ B hml hv
  obtain ⟨rfl, hBB⟩ := hv
  have hE := zt_B.env hBB; have hK := hE.2.1; have hP := hBB.2.1
  have hx := B.exec; have hb := B.bytes; have hr := B.returns; have hts := atoms_spec (ws := wsX3_order) B.pre
  have hown : s.vm.findClass RX3 = some m.cls := findClass_of_methodNamed B.named
  have hlocks := B.notSynchronized
  have hS : va_S (zt_A G) s.heap s.heap [] := va_S.rf
  have hl := lv_entry ([.int x0]) (n := 5) (Nat.le_of_ble_eq_true rfl)
  rw [lg_entry_eq]
  generalize (lg_sl ([.int x0]) ++ List.replicate (5 - (lg_sl ([.int x0])).length) Slot.unset).toArray = ls at hl ⊢
  have hl : lv_has ls 5 [(0, .int x0)] := hl
  show W p l e (zt_R 2 42) s m ([.int x0] : List Value).toArray below meth c s.heap [] 0 0 (MQ below (zt_Ci G r σ) ([.int x0] : List Value).toArray s 0 0 (zt_A G)) (F0 m 0 ls [])
  have B49 : ∀ (rc9 : Int32 → Int32 → Int32 → Int32 → Option (Int32)) (hrc9 : ∀ (u0 : Int32) (u1 : Int32) (u2 : Int32) (u3 : Int32) (H : Heap) (locs : List Loc) (ls : Array Slot), rc9 u0 u1 u2 u3 = some r → va_P (zt_D G) vwCl (zt_ww G σ) H → va_S (zt_A G) s.heap H locs → lv_has ls 5 [(0, .int u0), (1, .int u1), (2, .int u2), (3, .int u3)] → W p l e (zt_R 2 42) s m ([.int x0] : List Value).toArray below meth c H locs 0 0 (MQ below (zt_Ci G r σ) ([.int x0] : List Value).toArray s 0 0 (zt_A G)) (F0 m 9 ls [])), ∀ (y0 : Int32) (y1 : Int32) (u0 : Int32) (u1 : Int32) (u3 : Int32) (H : Heap) (locs : List Loc) (ls : Array Slot), f_X3_order_49 rc9 y0 y1 u0 u1 u3 = some r → va_P (zt_D G) vwCl (zt_ww G σ) H → va_S (zt_A G) s.heap H locs → lv_has ls 5 [(0, .int u0), (1, .int u1), (3, .int u3)] → W p l e (zt_R 2 42) s m ([.int x0] : List Value).toArray below meth c H locs 0 0 (MQ below (zt_Ci G r σ) ([.int x0] : List Value).toArray s 0 0 (zt_A G)) (F0 m 49 ls [.int y0, .int y1]) := by
    intro rc9 hrc9 y0 y1 u0 u1 u3 H locs ls hf hP hS hl
    unfold f_X3_order_49 at hf
    refine lv_iadd hx hb dX3_order_49 ?_
    refine lv_istore_n (lv' := [(2, .int (y1 + y0)), (0, .int u0), (1, .int u1), (3, .int u3)]) hx hb dX3_order_50 rfl hl (by decide) rfl (fun ls hl => ?_)
    refine lv_iinc (v := (u3 + 1)) (lv' := [(3, .int (u3 + 1)), (2, .int (y1 + y0)), (0, .int u0), (1, .int u1)]) hx hb dX3_order_51 hl (k := 3) rfl rfl (by decide) rfl (fun ls hl => ?_)
    refine lv_goto (tgt := 9) hx hb dX3_order_54 (by decide) ?_
    exact hrc9 u0 u1 (y1 + y0) (u3 + 1) _ _ _ hf hP hS (lv_sub hl [2, 3, 1, 0] rfl)
  have B48 : ∀ (rc9 : Int32 → Int32 → Int32 → Int32 → Option (Int32)) (hrc9 : ∀ (u0 : Int32) (u1 : Int32) (u2 : Int32) (u3 : Int32) (H : Heap) (locs : List Loc) (ls : Array Slot), rc9 u0 u1 u2 u3 = some r → va_P (zt_D G) vwCl (zt_ww G σ) H → va_S (zt_A G) s.heap H locs → lv_has ls 5 [(0, .int u0), (1, .int u1), (2, .int u2), (3, .int u3)] → W p l e (zt_R 2 42) s m ([.int x0] : List Value).toArray below meth c H locs 0 0 (MQ below (zt_Ci G r σ) ([.int x0] : List Value).toArray s 0 0 (zt_A G)) (F0 m 9 ls [])), ∀ (y0 : Int32) (u0 : Int32) (u1 : Int32) (u3 : Int32) (H : Heap) (locs : List Loc) (ls : Array Slot), f_X3_order_48 rc9 y0 u0 u1 u3 = some r → va_P (zt_D G) vwCl (zt_ww G σ) H → va_S (zt_A G) s.heap H locs → lv_has ls 5 [(0, .int u0), (1, .int u1), (3, .int u3)] → W p l e (zt_R 2 42) s m ([.int x0] : List Value).toArray below meth c H locs 0 0 (MQ below (zt_Ci G r σ) ([.int x0] : List Value).toArray s 0 0 (zt_A G)) (F0 m 48 ls [.int y0]) := by
    intro rc9 hrc9 y0 u0 u1 u3 H locs ls hf hP hS hl
    unfold f_X3_order_48 at hf
    refine lv_iconst (v := 0) hx hb dX3_order_48 (by decide) ?_
    exact B49 rc9 hrc9 0 y0 u0 u1 u3 _ _ _ hf hP hS (lv_sub hl [0, 1, 2] rfl)
  have B9 : ∀ (n : Nat), ∀ (u0 : Int32) (u1 : Int32) (u2 : Int32) (u3 : Int32) (H : Heap) (locs : List Loc) (ls : Array Slot), f_X3_order_9 n u0 u1 u2 u3 = some r → va_P (zt_D G) vwCl (zt_ww G σ) H → va_S (zt_A G) s.heap H locs → lv_has ls 5 [(0, .int u0), (1, .int u1), (2, .int u2), (3, .int u3)] → W p l e (zt_R 2 42) s m ([.int x0] : List Value).toArray below meth c H locs 0 0 (MQ below (zt_Ci G r σ) ([.int x0] : List Value).toArray s 0 0 (zt_A G)) (F0 m 9 ls []) := by
    intro n
    induction n with
    | zero => intro u0 u1 u2 u3 H locs ls hf; exact nomatch hf
    | succ n hrc9 =>
      intro u0 u1 u2 u3 H locs ls hf hP hS hl
      generalize hrcg : f_X3_order_9 n = rc9 at hrc9
      have hf : f_X3_order_9b rc9 u0 u1 u2 u3 = some r := by rw [← hrcg]; exact hf
      unfold f_X3_order_9b at hf
      refine lv_iload_n hx hb dX3_order_9 rfl (lv_at hl 3 rfl) ?_
      refine lv_iconst (v := 4) hx hb dX3_order_10 (by decide) ?_
      refine lv_icmp_gt (tgt := 57) hx hb dX3_order_11 (by decide) (fun c3 => ?_) (fun c3 => ?_)
      · have hf := (if_pos c3).symm.trans hf
        refine lv_iload_n hx hb dX3_order_57 rfl (lv_at hl 2 rfl) ?_
        exact W.iret hx hb hr (fun t ht hW => ⟨⟨_, _, rfl, ⟨Option.some.inj hf, rfl⟩, zt_go hE hP hS zt_id ht hW⟩, hS.F ht⟩) hS.2.2 dX3_order_58
      · have hf := (if_neg c3).symm.trans hf
        refine lv_iload_n hx hb dX3_order_14 rfl (lv_at hl 1 rfl) ?_
        refine lv_iload_n hx hb dX3_order_15 rfl (lv_at hl 3 rfl) ?_
        refine lv_isub hx hb dX3_order_16 ?_
        obtain ⟨v4, hvv4, hf⟩ := zt_bd_some hf
        refine va_calli (va_runS (As := [.int (u1 - u3)]) (rest := []) ⟨hx, hb, hml, hown, hts⟩ (m_X3_power l G (σ := σ) hvv4) (va_cwS 1 hts gX3_order_X3_power rfl rfl rfl zh_X3_power ⟨Nat.le_of_ble_eq_true rfl, Nat.le_of_ble_eq_true rfl⟩) ⟨zt_blind, fun U hU hW => ⟨rfl, zt_go hE hP hS zt_id hU hW⟩⟩ rfl rfl hl.1 rfl (lv_room (Nat.le_of_ble_eq_true rfl)) dX3_order_17 ⟨Nat.zero_le _, Nat.zero_le _⟩) hS (fun _ _ h => h) (fun _ h => h) (fun r u t H locs ht hvm hw hB _ _ hS => ?_)
        rw [hw.1]; have hB : zt_B G u t := hB; rw [hw.2] at hB; have hP := zt_B.P hB ht
        refine lv_istore (lv' := [(4, .int v4), (0, .int u0), (1, .int u1), (2, .int u2), (3, .int u3)]) hx hb dX3_order_20 hl (by decide) rfl (fun ls hl => ?_)
        refine lv_iload_n hx hb dX3_order_22 rfl (lv_at hl 3 rfl) ?_
        refine lv_bipush (v := 11) hx hb dX3_order_23 (by decide +kernel) ?_
        refine lv_imul hx hb dX3_order_25 ?_
        refine lv_iload_n hx hb dX3_order_26 rfl (lv_at hl 4 rfl) ?_
        refine lv_iload_n hx hb dX3_order_27 rfl (lv_at hl 2 rfl) ?_
        refine lv_icmp_gt (tgt := 48) hx hb dX3_order_28 (by decide) (fun c6 => ?_) (fun c6 => ?_)
        · have hf := (if_pos c6).symm.trans hf
          exact B48 rc9 hrc9 (u2 * 11) u0 u1 u3 _ _ _ hf hP hS (lv_sub hl [1, 2, 4] rfl)
        · have hf := (if_neg c6).symm.trans hf
          refine lv_iload hx hb dX3_order_31 (lv_at hl 0 rfl) ?_
          refine lv_if_le (tgt := 48) hx hb dX3_order_33 (by decide) (fun c7 => ?_) (fun c7 => ?_)
          · have hf := (if_pos c7).symm.trans hf
            exact B48 rc9 hrc9 (u2 * 11) u0 u1 u3 _ _ _ hf hP hS (lv_sub hl [1, 2, 4] rfl)
          · have hf := (if_neg c7).symm.trans hf
            refine lv_iload_n hx hb dX3_order_36 rfl (lv_at hl 1 rfl) ?_
            refine lv_iload hx hb dX3_order_37 (lv_at hl 0 rfl) ?_
            obtain ⟨g8, hf⟩ := zt_gd_some hf
            refine lv_idiv hx hb dX3_order_39 (zt_nz0 g8) ?_
            refine lv_bipush (v := 10) hx hb dX3_order_40 (by decide +kernel) ?_
            refine lv_irem hx hb dX3_order_42 (by decide) ?_
            refine lv_iconst (v := 1) hx hb dX3_order_43 (by decide) ?_
            refine lv_iadd hx hb dX3_order_44 ?_
            refine lv_goto (tgt := 49) hx hb dX3_order_45 (by decide) ?_
            exact B49 rc9 hrc9 (((u0 / v4) - (u0 / v4) / 10 * 10) + 1) (u2 * 11) u0 u1 u3 _ _ _ hf hP hS (lv_sub hl [1, 2, 4] rfl)
  unfold f_X3_order at hf
  refine lv_iload_n hx hb dX3_order_0 rfl (lv_at hl 0 rfl) ?_
  obtain ⟨v1, hvv1, hf⟩ := zt_bd_some hf
  refine va_calli (va_runS (As := [.int x0]) (rest := []) ⟨hx, hb, hml, hown, hts⟩ (m_X3_figures l G (σ := σ) hvv1) (va_cwS 1 hts gX3_order_X3_figures rfl rfl rfl zh_X3_figures ⟨Nat.le_of_ble_eq_true rfl, Nat.le_of_ble_eq_true rfl⟩) ⟨zt_blind, fun U hU hW => ⟨rfl, zt_go hE hP hS zt_id hU hW⟩⟩ rfl rfl hl.1 rfl (lv_room (Nat.le_of_ble_eq_true rfl)) dX3_order_1 ⟨Nat.zero_le _, Nat.zero_le _⟩) hS (fun _ _ h => h) (fun _ h => h) (fun r u t H locs ht hvm hw hB _ _ hS => ?_)
  rw [hw.1]; have hB : zt_B G u t := hB; rw [hw.2] at hB; have hP := zt_B.P hB ht
  refine lv_istore_n (lv' := [(1, .int v1), (0, .int x0)]) hx hb dX3_order_4 rfl hl (by decide) rfl (fun ls hl => ?_)
  refine lv_iconst (v := 0) hx hb dX3_order_5 (by decide) ?_
  refine lv_istore_n (lv' := [(2, .int 0), (1, .int v1), (0, .int x0)]) hx hb dX3_order_6 rfl hl (by decide) rfl (fun ls hl => ?_)
  refine lv_iconst (v := 1) hx hb dX3_order_7 (by decide) ?_
  refine lv_istore_n (lv' := [(3, .int 1), (2, .int 0), (1, .int v1), (0, .int x0)]) hx hb dX3_order_8 rfl hl (by decide) rfl (fun ls hl => ?_)
  exact B9 zt_FU x0 v1 0 1 _ _ _ hf hP hS (lv_sub hl [3, 2, 1, 0] rfl)

theorem zh_X4_isThereBy : yX4_isThereBy.cls = RX4 ∧ yX4_isThereBy.cls ≠ "java/lang/invoke/MethodHandle" ∧ yX4_isThereBy.cls ≠ "java/lang/invoke/VarHandle" ∧ (parseMethodDescriptor yX4_isThereBy.desc).map (fun d => d.parameters.length) = some 2 := by decide +kernel
set_option maxHeartbeats 4000000 in
set_option maxRecDepth 100000 in
theorem m_X4_isThereBy (l : Launch) (G : zt_G) {σ : zt_St} {k0 : Nat} (hk0 : zt_kd k0 = 3) {x1 : Int32} {x2 : Int32} {r : Int32} (hf : f_X4_isThereBy σ k0 x1 x2 = some r) : zt_Mi l G yX4_isThereBy wsX4_isThereBy 1 23 [.ref (zt_ad G k0), .int x1, .int x2] σ r σ := by
  refine Met.ofW (cc := cX4_isThereBy) (maxL := 4) (ret := (some .boolean)) (by decide) rfl ?_
  intro p e s m args below meth c s₁ B hml hv
  obtain ⟨rfl, hBB⟩ := hv
  have hE := zt_B.env hBB; have hK := hE.2.1; have hP := hBB.2.1
  have hx := B.exec; have hb := B.bytes; have hr := B.returns; have hts := atoms_spec (ws := wsX4_isThereBy) B.pre
  have hown : s.vm.findClass RX4 = some m.cls := findClass_of_methodNamed B.named
  have hlocks := B.notSynchronized
  have hS : va_S (zt_A G) s.heap s.heap [] := va_S.rf
  have hl := lv_entry ([.ref (zt_ad G k0), .int x1, .int x2]) (n := 4) (Nat.le_of_ble_eq_true rfl)
  rw [lg_entry_eq]
  generalize (lg_sl ([.ref (zt_ad G k0), .int x1, .int x2]) ++ List.replicate (4 - (lg_sl ([.ref (zt_ad G k0), .int x1, .int x2])).length) Slot.unset).toArray = ls at hl ⊢
  have hl : lv_has ls 4 [(0, .ref (zt_ad G k0)), (1, .int x1), (2, .int x2)] := hl
  show W p l e (zt_R 1 23) s m ([.ref (zt_ad G k0), .int x1, .int x2] : List Value).toArray below meth c s.heap [] 0 0 (MQ below (zt_Ci G r σ) ([.ref (zt_ad G k0), .int x1, .int x2] : List Value).toArray s 0 0 (zt_A G)) (F0 m 0 ls [])
  have fl9 := hts (.fieldLink RX4 9 "ZoneTree$Records" "places" "[I") (List.mem_cons_of_mem _ (List.mem_append_left _ (List.mem_of_getElem? (i := 0) rfl)))
  have inX4 : ∀ w ∈ wsX40, w ∈ wsX4_isThereBy := fun w h => (List.mem_cons_of_mem _ (List.mem_append_right _ h))
  have B2 : ∀ (n : Nat), ∀ (u1 : Int32) (u2 : Int32) (u3 : Int32) (H : Heap) (locs : List Loc) (ls : Array Slot), f_X4_isThereBy_2 σ k0 n u1 u2 u3 = some r → va_P (zt_D G) vwCl (zt_ww G σ) H → va_S (zt_A G) s.heap H locs → lv_has ls 4 [(0, .ref (zt_ad G k0)), (1, .int u1), (2, .int u2), (3, .int u3)] → W p l e (zt_R 1 23) s m ([.ref (zt_ad G k0), .int x1, .int x2] : List Value).toArray below meth c H locs 0 0 (MQ below (zt_Ci G r σ) ([.ref (zt_ad G k0), .int x1, .int x2] : List Value).toArray s 0 0 (zt_A G)) (F0 m 2 ls []) := by
    intro n
    induction n with
    | zero => intro u1 u2 u3 H locs ls hf; exact nomatch hf
    | succ n hrc2 =>
      intro u1 u2 u3 H locs ls hf hP hS hl
      generalize hrcg : f_X4_isThereBy_2 σ k0 n = rc2 at hrc2
      have hf : f_X4_isThereBy_2b σ k0 rc2 u1 u2 u3 = some r := by rw [← hrcg]; exact hf
      unfold f_X4_isThereBy_2b at hf
      refine lv_iload_n hx hb dX4_isThereBy_2 rfl (lv_at hl 3 rfl) ?_
      refine lv_iload_n hx hb dX4_isThereBy_3 rfl (lv_at hl 1 rfl) ?_
      refine lv_icmp_ge (tgt := 40) hx hb dX4_isThereBy_4 (by decide) (fun c1 => ?_) (fun c1 => ?_)
      · have hf := (if_pos c1).symm.trans hf
        refine lv_iconst (v := 0) hx hb dX4_isThereBy_40 (by decide) ?_
        exact W.zret hx hb hr (zt_bn (by decide)).1 (fun t ht hW => ⟨⟨_, _, rfl, ⟨Option.some.inj hf, rfl⟩, zt_go hE hP hS zt_id ht hW⟩, hS.F ht⟩) hS.2.2 dX4_isThereBy_41
      · have hf := (if_neg c1).symm.trans hf
        refine lv_iload_n hx hb dX4_isThereBy_7 rfl (lv_at hl 3 rfl) ?_
        refine lv_aload_n hx hb dX4_isThereBy_8 rfl (lv_at hl 0 rfl) ?_
        refine va_get (D := zt_D G) (ci := 3) (v := .ref (zt_ad G (k0 + 1))) (C := RX4) (T := TX4) (N := 5) hx hb hts inX4 hown hK hP k0 (zt_a3 hk0) rfl 0 (by decide) fl9 (fun _ h9 => h9) rfl dX4_isThereBy_9 ?_
        refine va_alen hx hb hK hP (k0 + 1) 0 (zt_a9 (zt_k3_0 hk0)) rfl (v := Int32.ofNat (zt_ln (k0 + 1))) rfl dX4_isThereBy_12 ?_
        refine lv_icmp_ge (tgt := 40) hx hb dX4_isThereBy_13 (by decide) (fun c2 => ?_) (fun c2 => ?_)
        · have hf := (if_pos c2).symm.trans hf
          refine lv_iconst (v := 0) hx hb dX4_isThereBy_40 (by decide) ?_
          exact W.zret hx hb hr (zt_bn (by decide)).1 (fun t ht hW => ⟨⟨_, _, rfl, ⟨Option.some.inj hf, rfl⟩, zt_go hE hP hS zt_id ht hW⟩, hS.F ht⟩) hS.2.2 dX4_isThereBy_41
        · have hf := (if_neg c2).symm.trans hf
          refine lv_aload_n hx hb dX4_isThereBy_16 rfl (lv_at hl 0 rfl) ?_
          refine va_get (D := zt_D G) (ci := 3) (v := .ref (zt_ad G (k0 + 1))) (C := RX4) (T := TX4) (N := 5) hx hb hts inX4 hown hK hP k0 (zt_a3 hk0) rfl 0 (by decide) fl9 (fun _ h9 => h9) rfl dX4_isThereBy_17 ?_
          refine lv_iload_n hx hb dX4_isThereBy_20 rfl (lv_at hl 3 rfl) ?_
          obtain ⟨g3, hf⟩ := zt_gd_some hf
          refine va_iald hx hb hK hP (k0 + 1) 0 (zt_a9 (zt_k3_0 hk0)) rfl (zt_gI_in g3) dX4_isThereBy_21 ?_
          obtain ⟨v4, hvv4, hf⟩ := zt_bd_some hf
          refine va_calli (va_runS (As := [.int (σ (k0 + 1) u3.toNatClampNeg)]) (rest := []) ⟨hx, hb, hml, hown, hts⟩ (m_X3_nameOf l G (σ := σ) hvv4) (va_cwS 1 hts gX4_isThereBy_X3_nameOf rfl rfl rfl zh_X3_nameOf ⟨Nat.le_of_ble_eq_true rfl, Nat.le_of_ble_eq_true rfl⟩) ⟨zt_blind, fun U hU hW => ⟨rfl, zt_go hE hP hS zt_id hU hW⟩⟩ rfl rfl hl.1 rfl (lv_room (Nat.le_of_ble_eq_true rfl)) dX4_isThereBy_22 ⟨Nat.zero_le _, Nat.zero_le _⟩) hS (fun _ _ h => h) (fun _ h => h) (fun r u t H locs ht hvm hw hB _ _ hS => ?_)
          rw [hw.1]; have hB : zt_B G u t := hB; rw [hw.2] at hB; have hP := zt_B.P hB ht
          refine lv_iload_n hx hb dX4_isThereBy_25 rfl (lv_at hl 2 rfl) ?_
          obtain ⟨v6, hvv6, hf⟩ := zt_bd_some hf
          refine va_calli (va_runS (As := [.int v4, .int u2]) (rest := []) ⟨hx, hb, hml, hown, hts⟩ (m_X3_isUnder l G (σ := σ) hvv6) (va_cwS 2 hts gX4_isThereBy_X3_isUnder rfl rfl rfl zh_X3_isUnder ⟨Nat.le_of_ble_eq_true rfl, Nat.le_of_ble_eq_true rfl⟩) ⟨zt_blind, fun U hU hW => ⟨rfl, zt_go hE hP hS zt_id hU hW⟩⟩ rfl rfl hl.1 rfl (lv_room (Nat.le_of_ble_eq_true rfl)) dX4_isThereBy_26 ⟨Nat.zero_le _, Nat.zero_le _⟩) hS (fun _ _ h => h) (fun _ h => h) (fun r u t H locs ht hvm hw hB _ _ hS => ?_)
          rw [hw.1]; have hB : zt_B G u t := hB; rw [hw.2] at hB; have hP := zt_B.P hB ht
          refine lv_if_eq (tgt := 34) hx hb dX4_isThereBy_29 (by decide) (fun c8 => ?_) (fun c8 => ?_)
          · have hf := (if_pos c8).symm.trans hf
            refine lv_iinc (v := (u3 + 1)) (lv' := [(3, .int (u3 + 1)), (0, .ref (zt_ad G k0)), (1, .int u1), (2, .int u2)]) hx hb dX4_isThereBy_34 hl (k := 3) rfl rfl (by decide) rfl (fun ls hl => ?_)
            refine lv_goto (tgt := 2) hx hb dX4_isThereBy_37 (by decide) ?_
            exact hrc2 u1 u2 (u3 + 1) _ _ _ hf hP hS (lv_sub hl [1, 2, 3, 0] rfl)
          · have hf := (if_neg c8).symm.trans hf
            refine lv_iconst (v := 1) hx hb dX4_isThereBy_32 (by decide) ?_
            exact W.zret hx hb hr (zt_bn (by decide)).1 (fun t ht hW => ⟨⟨_, _, rfl, ⟨Option.some.inj hf, rfl⟩, zt_go hE hP hS zt_id ht hW⟩, hS.F ht⟩) hS.2.2 dX4_isThereBy_33
  unfold f_X4_isThereBy at hf
  refine lv_iconst (v := 0) hx hb dX4_isThereBy_0 (by decide) ?_
  refine lv_istore_n (lv' := [(3, .int 0), (0, .ref (zt_ad G k0)), (1, .int x1), (2, .int x2)]) hx hb dX4_isThereBy_1 rfl hl (by decide) rfl (fun ls hl => ?_)
  exact B2 zt_FU x1 x2 0 _ _ _ hf hP hS (lv_sub hl [1, 2, 3, 0] rfl)

theorem zh_X4_cutOver : yX4_cutOver.cls = RX4 ∧ yX4_cutOver.cls ≠ "java/lang/invoke/MethodHandle" ∧ yX4_cutOver.cls ≠ "java/lang/invoke/VarHandle" ∧ (parseMethodDescriptor yX4_cutOver.desc).map (fun d => d.parameters.length) = some 1 := by decide +kernel
set_option maxHeartbeats 4000000 in
set_option maxRecDepth 100000 in
theorem m_X4_cutOver (l : Launch) (G : zt_G) {σ : zt_St} {k0 : Nat} (hk0 : zt_kd k0 = 3) {x1 : Int32} {r : Int32} (hf : f_X4_cutOver σ k0 x1 = some r) : zt_Mi l G yX4_cutOver wsX4_cutOver 1 23 [.ref (zt_ad G k0), .int x1] σ r σ := by
  refine Met.ofW (cc := cX4_cutOver) (maxL := 6) (ret := (some .int)) (by decide) rfl ?_
  intro p e s m args below meth c s₁ B hml hv
  obtain ⟨rfl, hBB⟩ := hv
  have hE := zt_B.env hBB; have hK := hE.2.1; have hP := hBB.2.1
  have hx := B.exec; have hb := B.bytes; have hr := B.returns; have hts := atoms_spec (ws := wsX4_cutOver) B.pre
  have hown : s.vm.findClass RX4 = some m.cls := findClass_of_methodNamed B.named
  have hlocks := B.notSynchronized
  have hS : va_S (zt_A G) s.heap s.heap [] := va_S.rf
  have hl := lv_entry ([.ref (zt_ad G k0), .int x1]) (n := 6) (Nat.le_of_ble_eq_true rfl)
  rw [lg_entry_eq]
  generalize (lg_sl ([.ref (zt_ad G k0), .int x1]) ++ List.replicate (6 - (lg_sl ([.ref (zt_ad G k0), .int x1])).length) Slot.unset).toArray = ls at hl ⊢
  have hl : lv_has ls 6 [(0, .ref (zt_ad G k0)), (1, .int x1)] := hl
  show W p l e (zt_R 1 23) s m ([.ref (zt_ad G k0), .int x1] : List Value).toArray below meth c s.heap [] 0 0 (MQ below (zt_Ci G r σ) ([.ref (zt_ad G k0), .int x1] : List Value).toArray s 0 0 (zt_A G)) (F0 m 0 ls [])
  have fl9 := hts (.fieldLink RX4 9 "ZoneTree$Records" "places" "[I") (List.mem_cons_of_mem _ (List.mem_append_left _ (List.mem_of_getElem? (i := 1) rfl)))
  have fl15 := hts (.fieldLink RX4 15 "ZoneTree$Records" "sorts" "[I") (List.mem_cons_of_mem _ (List.mem_append_left _ (List.mem_of_getElem? (i := 2) rfl)))
  have fl24 := hts (.fieldLink RX4 24 "ZoneTree$Records" "count" "I") (List.mem_cons_of_mem _ (List.mem_append_left _ (List.mem_of_getElem? (i := 0) rfl)))
  have inX4 : ∀ w ∈ wsX40, w ∈ wsX4_cutOver := fun w h => (List.mem_cons_of_mem _ (List.mem_append_right _ h))
  have B90 : ∀ (rc7 : Int32 → Int32 → Int32 → Int32 → Option (Int32)) (hrc7 : ∀ (u1 : Int32) (u2 : Int32) (u3 : Int32) (u4 : Int32) (H : Heap) (locs : List Loc) (ls : Array Slot), rc7 u1 u2 u3 u4 = some r → va_P (zt_D G) vwCl (zt_ww G σ) H → va_S (zt_A G) s.heap H locs → lv_has ls 6 [(0, .ref (zt_ad G k0)), (1, .int u1), (2, .int u2), (3, .int u3), (4, .int u4)] → W p l e (zt_R 1 23) s m ([.ref (zt_ad G k0), .int x1] : List Value).toArray below meth c H locs 0 0 (MQ below (zt_Ci G r σ) ([.ref (zt_ad G k0), .int x1] : List Value).toArray s 0 0 (zt_A G)) (F0 m 7 ls [])), ∀ (u1 : Int32) (u2 : Int32) (u3 : Int32) (u4 : Int32) (H : Heap) (locs : List Loc) (ls : Array Slot), f_X4_cutOver_90 σ k0 rc7 u1 u2 u3 u4 = some r → va_P (zt_D G) vwCl (zt_ww G σ) H → va_S (zt_A G) s.heap H locs → lv_has ls 6 [(0, .ref (zt_ad G k0)), (1, .int u1), (2, .int u2), (3, .int u3), (4, .int u4)] → W p l e (zt_R 1 23) s m ([.ref (zt_ad G k0), .int x1] : List Value).toArray below meth c H locs 0 0 (MQ below (zt_Ci G r σ) ([.ref (zt_ad G k0), .int x1] : List Value).toArray s 0 0 (zt_A G)) (F0 m 90 ls []) := by
    intro rc7 hrc7 u1 u2 u3 u4 H locs ls hf hP hS hl
    unfold f_X4_cutOver_90 at hf
    refine lv_iinc (v := (u4 + 1)) (lv' := [(4, .int (u4 + 1)), (0, .ref (zt_ad G k0)), (1, .int u1), (2, .int u2), (3, .int u3)]) hx hb dX4_cutOver_90 hl (k := 4) rfl rfl (by decide) rfl (fun ls hl => ?_)
    refine lv_goto (tgt := 7) hx hb dX4_cutOver_93 (by decide) ?_
    exact hrc7 u1 u2 u3 (u4 + 1) _ _ _ hf hP hS (lv_sub hl [1, 2, 3, 4, 0] rfl)
  have B79 : ∀ (rc7 : Int32 → Int32 → Int32 → Int32 → Option (Int32)) (hrc7 : ∀ (u1 : Int32) (u2 : Int32) (u3 : Int32) (u4 : Int32) (H : Heap) (locs : List Loc) (ls : Array Slot), rc7 u1 u2 u3 u4 = some r → va_P (zt_D G) vwCl (zt_ww G σ) H → va_S (zt_A G) s.heap H locs → lv_has ls 6 [(0, .ref (zt_ad G k0)), (1, .int u1), (2, .int u2), (3, .int u3), (4, .int u4)] → W p l e (zt_R 1 23) s m ([.ref (zt_ad G k0), .int x1] : List Value).toArray below meth c H locs 0 0 (MQ below (zt_Ci G r σ) ([.ref (zt_ad G k0), .int x1] : List Value).toArray s 0 0 (zt_A G)) (F0 m 7 ls [])), ∀ (u1 : Int32) (u4 : Int32) (H : Heap) (locs : List Loc) (ls : Array Slot), f_X4_cutOver_79 σ k0 rc7 u1 u4 = some r → va_P (zt_D G) vwCl (zt_ww G σ) H → va_S (zt_A G) s.heap H locs → lv_has ls 6 [(0, .ref (zt_ad G k0)), (1, .int u1), (4, .int u4)] → W p l e (zt_R 1 23) s m ([.ref (zt_ad G k0), .int x1] : List Value).toArray below meth c H locs 0 0 (MQ below (zt_Ci G r σ) ([.ref (zt_ad G k0), .int x1] : List Value).toArray s 0 0 (zt_A G)) (F0 m 79 ls []) := by
    intro rc7 hrc7 u1 u4 H locs ls hf hP hS hl
    unfold f_X4_cutOver_79 at hf
    refine lv_iload hx hb dX4_cutOver_79 (lv_at hl 2 rfl) ?_
    refine lv_istore_n (lv' := [(2, .int u4), (0, .ref (zt_ad G k0)), (1, .int u1), (4, .int u4)]) hx hb dX4_cutOver_81 rfl hl (by decide) rfl (fun ls hl => ?_)
    refine lv_aload_n hx hb dX4_cutOver_82 rfl (lv_at hl 1 rfl) ?_
    refine va_get (D := zt_D G) (ci := 3) (v := .ref (zt_ad G (k0 + 1))) (C := RX4) (T := TX4) (N := 5) hx hb hts inX4 hown hK hP k0 (zt_a3 hk0) rfl 0 (by decide) fl9 (fun _ h9 => h9) rfl dX4_cutOver_83 ?_
    refine lv_iload hx hb dX4_cutOver_86 (lv_at hl 3 rfl) ?_
    obtain ⟨g13, hf⟩ := zt_gd_some hf
    refine va_iald hx hb hK hP (k0 + 1) 0 (zt_a9 (zt_k3_0 hk0)) rfl (zt_gI_in g13) dX4_cutOver_88 ?_
    refine lv_istore_n (lv' := [(3, .int (σ (k0 + 1) u4.toNatClampNeg)), (2, .int u4), (0, .ref (zt_ad G k0)), (1, .int u1), (4, .int u4)]) hx hb dX4_cutOver_89 rfl hl (by decide) rfl (fun ls hl => ?_)
    exact B90 rc7 hrc7 u1 u4 (σ (k0 + 1) u4.toNatClampNeg) u4 _ _ _ hf hP hS (lv_sub hl [2, 3, 1, 0, 4] rfl)
  have B56 : ∀ (rc7 : Int32 → Int32 → Int32 → Int32 → Option (Int32)) (hrc7 : ∀ (u1 : Int32) (u2 : Int32) (u3 : Int32) (u4 : Int32) (H : Heap) (locs : List Loc) (ls : Array Slot), rc7 u1 u2 u3 u4 = some r → va_P (zt_D G) vwCl (zt_ww G σ) H → va_S (zt_A G) s.heap H locs → lv_has ls 6 [(0, .ref (zt_ad G k0)), (1, .int u1), (2, .int u2), (3, .int u3), (4, .int u4)] → W p l e (zt_R 1 23) s m ([.ref (zt_ad G k0), .int x1] : List Value).toArray below meth c H locs 0 0 (MQ below (zt_Ci G r σ) ([.ref (zt_ad G k0), .int x1] : List Value).toArray s 0 0 (zt_A G)) (F0 m 7 ls [])), ∀ (y0 : Int32) (u1 : Int32) (u2 : Int32) (u3 : Int32) (u4 : Int32) (H : Heap) (locs : List Loc) (ls : Array Slot), f_X4_cutOver_56 σ k0 rc7 y0 u1 u2 u3 u4 = some r → va_P (zt_D G) vwCl (zt_ww G σ) H → va_S (zt_A G) s.heap H locs → lv_has ls 6 [(0, .ref (zt_ad G k0)), (1, .int u1), (2, .int u2), (3, .int u3), (4, .int u4)] → W p l e (zt_R 1 23) s m ([.ref (zt_ad G k0), .int x1] : List Value).toArray below meth c H locs 0 0 (MQ below (zt_Ci G r σ) ([.ref (zt_ad G k0), .int x1] : List Value).toArray s 0 0 (zt_A G)) (F0 m 56 ls [.int y0]) := by
    intro rc7 hrc7 y0 u1 u2 u3 u4 H locs ls hf hP hS hl
    unfold f_X4_cutOver_56 at hf
    refine lv_istore (lv' := [(5, .int y0), (0, .ref (zt_ad G k0)), (1, .int u1), (2, .int u2), (3, .int u3), (4, .int u4)]) hx hb dX4_cutOver_56 hl (by decide) rfl (fun ls hl => ?_)
    refine lv_iload hx hb dX4_cutOver_58 (lv_at hl 0 rfl) ?_
    refine lv_if_eq (tgt := 90) hx hb dX4_cutOver_60 (by decide) (fun c9 => ?_) (fun c9 => ?_)
    · have hf := (if_pos c9).symm.trans hf
      exact B90 rc7 hrc7 u1 u2 u3 u4 _ _ _ hf hP hS (lv_sub hl [1, 2, 3, 4, 5] rfl)
    · have hf := (if_neg c9).symm.trans hf
      refine lv_iload_n hx hb dX4_cutOver_63 rfl (lv_at hl 3 rfl) ?_
      refine lv_iconst (v := (-1)) hx hb dX4_cutOver_64 (by decide) ?_
      refine lv_icmp_eq (tgt := 79) hx hb dX4_cutOver_65 (by decide) (fun c10 => ?_) (fun c10 => ?_)
      · have hf := (if_pos c10).symm.trans hf
        exact B79 rc7 hrc7 u1 u4 _ _ _ hf hP hS (lv_sub hl [1, 2, 5] rfl)
      · have hf := (if_neg c10).symm.trans hf
        refine lv_aload_n hx hb dX4_cutOver_68 rfl (lv_at hl 1 rfl) ?_
        refine va_get (D := zt_D G) (ci := 3) (v := .ref (zt_ad G (k0 + 1))) (C := RX4) (T := TX4) (N := 5) hx hb hts inX4 hown hK hP k0 (zt_a3 hk0) rfl 0 (by decide) fl9 (fun _ h9 => h9) rfl dX4_cutOver_69 ?_
        refine lv_iload hx hb dX4_cutOver_72 (lv_at hl 5 rfl) ?_
        obtain ⟨g11, hf⟩ := zt_gd_some hf
        refine va_iald hx hb hK hP (k0 + 1) 0 (zt_a9 (zt_k3_0 hk0)) rfl (zt_gI_in g11) dX4_cutOver_74 ?_
        refine lv_iload_n hx hb dX4_cutOver_75 rfl (lv_at hl 4 rfl) ?_
        refine lv_icmp_ge (tgt := 90) hx hb dX4_cutOver_76 (by decide) (fun c12 => ?_) (fun c12 => ?_)
        · have hf := (if_pos c12).symm.trans hf
          exact B90 rc7 hrc7 u1 u2 u3 u4 _ _ _ hf hP hS (lv_sub hl [1, 2, 3, 4, 5] rfl)
        · have hf := (if_neg c12).symm.trans hf
          exact B79 rc7 hrc7 u1 u4 _ _ _ hf hP hS (lv_sub hl [1, 2, 5] rfl)
  have B55 : ∀ (rc7 : Int32 → Int32 → Int32 → Int32 → Option (Int32)) (hrc7 : ∀ (u1 : Int32) (u2 : Int32) (u3 : Int32) (u4 : Int32) (H : Heap) (locs : List Loc) (ls : Array Slot), rc7 u1 u2 u3 u4 = some r → va_P (zt_D G) vwCl (zt_ww G σ) H → va_S (zt_A G) s.heap H locs → lv_has ls 6 [(0, .ref (zt_ad G k0)), (1, .int u1), (2, .int u2), (3, .int u3), (4, .int u4)] → W p l e (zt_R 1 23) s m ([.ref (zt_ad G k0), .int x1] : List Value).toArray below meth c H locs 0 0 (MQ below (zt_Ci G r σ) ([.ref (zt_ad G k0), .int x1] : List Value).toArray s 0 0 (zt_A G)) (F0 m 7 ls [])), ∀ (u1 : Int32) (u2 : Int32) (u3 : Int32) (u4 : Int32) (H : Heap) (locs : List Loc) (ls : Array Slot), f_X4_cutOver_55 σ k0 rc7 u1 u2 u3 u4 = some r → va_P (zt_D G) vwCl (zt_ww G σ) H → va_S (zt_A G) s.heap H locs → lv_has ls 6 [(0, .ref (zt_ad G k0)), (1, .int u1), (2, .int u2), (3, .int u3), (4, .int u4)] → W p l e (zt_R 1 23) s m ([.ref (zt_ad G k0), .int x1] : List Value).toArray below meth c H locs 0 0 (MQ below (zt_Ci G r σ) ([.ref (zt_ad G k0), .int x1] : List Value).toArray s 0 0 (zt_A G)) (F0 m 55 ls []) := by
    intro rc7 hrc7 u1 u2 u3 u4 H locs ls hf hP hS hl
    unfold f_X4_cutOver_55 at hf
    refine lv_iconst (v := 0) hx hb dX4_cutOver_55 (by decide) ?_
    exact B56 rc7 hrc7 0 u1 u2 u3 u4 _ _ _ hf hP hS (lv_sub hl [0, 1, 2, 3, 4] rfl)
  have B7 : ∀ (n : Nat), ∀ (u1 : Int32) (u2 : Int32) (u3 : Int32) (u4 : Int32) (H : Heap) (locs : List Loc) (ls : Array Slot), f_X4_cutOver_7 σ k0 n u1 u2 u3 u4 = some r → va_P (zt_D G) vwCl (zt_ww G σ) H → va_S (zt_A G) s.heap H locs → lv_has ls 6 [(0, .ref (zt_ad G k0)), (1, .int u1), (2, .int u2), (3, .int u3), (4, .int u4)] → W p l e (zt_R 1 23) s m ([.ref (zt_ad G k0), .int x1] : List Value).toArray below meth c H locs 0 0 (MQ below (zt_Ci G r σ) ([.ref (zt_ad G k0), .int x1] : List Value).toArray s 0 0 (zt_A G)) (F0 m 7 ls []) := by
    intro n
    induction n with
    | zero => intro u1 u2 u3 u4 H locs ls hf; exact nomatch hf
    | succ n hrc7 =>
      intro u1 u2 u3 u4 H locs ls hf hP hS hl
      generalize hrcg : f_X4_cutOver_7 σ k0 n = rc7 at hrc7
      have hf : f_X4_cutOver_7b σ k0 rc7 u1 u2 u3 u4 = some r := by rw [← hrcg]; exact hf
      unfold f_X4_cutOver_7b at hf
      refine lv_iload hx hb dX4_cutOver_7 (lv_at hl 4 rfl) ?_
      refine lv_aload_n hx hb dX4_cutOver_9 rfl (lv_at hl 0 rfl) ?_
      refine va_get (D := zt_D G) (ci := 3) (v := .int (σ k0 4)) (C := RX4) (T := TX4) (N := 5) hx hb hts inX4 hown hK hP k0 (zt_a3 hk0) rfl 4 (by decide) fl24 (fun _ h9 => h9) rfl dX4_cutOver_10 ?_
      refine lv_icmp_ge (tgt := 96) hx hb dX4_cutOver_13 (by decide) (fun c1 => ?_) (fun c1 => ?_)
      · have hf := (if_pos c1).symm.trans hf
        refine lv_iload_n hx hb dX4_cutOver_96 rfl (lv_at hl 2 rfl) ?_
        exact W.iret hx hb hr (fun t ht hW => ⟨⟨_, _, rfl, ⟨Option.some.inj hf, rfl⟩, zt_go hE hP hS zt_id ht hW⟩, hS.F ht⟩) hS.2.2 dX4_cutOver_97
      · have hf := (if_neg c1).symm.trans hf
        refine lv_iload hx hb dX4_cutOver_16 (lv_at hl 4 rfl) ?_
        refine lv_aload_n hx hb dX4_cutOver_18 rfl (lv_at hl 0 rfl) ?_
        refine va_get (D := zt_D G) (ci := 3) (v := .ref (zt_ad G (k0 + 1))) (C := RX4) (T := TX4) (N := 5) hx hb hts inX4 hown hK hP k0 (zt_a3 hk0) rfl 0 (by decide) fl9 (fun _ h9 => h9) rfl dX4_cutOver_19 ?_
        refine va_alen hx hb hK hP (k0 + 1) 0 (zt_a9 (zt_k3_0 hk0)) rfl (v := Int32.ofNat (zt_ln (k0 + 1))) rfl dX4_cutOver_22 ?_
        refine lv_icmp_ge (tgt := 96) hx hb dX4_cutOver_23 (by decide) (fun c2 => ?_) (fun c2 => ?_)
        · have hf := (if_pos c2).symm.trans hf
          refine lv_iload_n hx hb dX4_cutOver_96 rfl (lv_at hl 2 rfl) ?_
          exact W.iret hx hb hr (fun t ht hW => ⟨⟨_, _, rfl, ⟨Option.some.inj hf, rfl⟩, zt_go hE hP hS zt_id ht hW⟩, hS.F ht⟩) hS.2.2 dX4_cutOver_97
        · have hf := (if_neg c2).symm.trans hf
          refine lv_aload_n hx hb dX4_cutOver_26 rfl (lv_at hl 0 rfl) ?_
          refine va_get (D := zt_D G) (ci := 3) (v := .ref (zt_ad G (k0 + 2))) (C := RX4) (T := TX4) (N := 5) hx hb hts inX4 hown hK hP k0 (zt_a3 hk0) rfl 1 (by decide) fl15 (fun _ h9 => h9) rfl dX4_cutOver_27 ?_
          refine lv_iload hx hb dX4_cutOver_30 (lv_at hl 4 rfl) ?_
          obtain ⟨g3, hf⟩ := zt_gd_some hf
          refine va_iald hx hb hK hP (k0 + 2) 0 (zt_a9 (zt_k3_1 hk0)) rfl (zt_gI_in g3) dX4_cutOver_32 ?_
          refine lv_iconst (v := 3) hx hb dX4_cutOver_33 (by decide) ?_
          refine lv_icmp_ne (tgt := 55) hx hb dX4_cutOver_34 (by decide) (fun c4 => ?_) (fun c4 => ?_)
          · have hf := (if_neg c4).symm.trans hf
            exact B55 rc7 hrc7 u1 u2 u3 u4 _ _ _ hf hP hS (lv_sub hl [0, 1, 2, 3, 4] rfl)
          · have hf := (if_pos c4).symm.trans hf
            refine lv_iload_n hx hb dX4_cutOver_37 rfl (lv_at hl 1 rfl) ?_
            refine lv_aload_n hx hb dX4_cutOver_38 rfl (lv_at hl 0 rfl) ?_
            refine va_get (D := zt_D G) (ci := 3) (v := .ref (zt_ad G (k0 + 1))) (C := RX4) (T := TX4) (N := 5) hx hb hts inX4 hown hK hP k0 (zt_a3 hk0) rfl 0 (by decide) fl9 (fun _ h9 => h9) rfl dX4_cutOver_39 ?_
            refine lv_iload hx hb dX4_cutOver_42 (lv_at hl 4 rfl) ?_
            obtain ⟨g5, hf⟩ := zt_gd_some hf
            refine va_iald hx hb hK hP (k0 + 1) 0 (zt_a9 (zt_k3_0 hk0)) rfl (zt_gI_in g5) dX4_cutOver_44 ?_
            obtain ⟨v6, hvv6, hf⟩ := zt_bd_some hf
            refine va_calli (va_runS (As := [.int u1, .int (σ (k0 + 1) u4.toNatClampNeg)]) (rest := []) ⟨hx, hb, hml, hown, hts⟩ (m_X3_isUnder l G (σ := σ) hvv6) (va_cwS 2 hts gX4_cutOver_X3_isUnder rfl rfl rfl zh_X3_isUnder ⟨Nat.le_of_ble_eq_true rfl, Nat.le_of_ble_eq_true rfl⟩) ⟨zt_blind, fun U hU hW => ⟨rfl, zt_go hE hP hS zt_id hU hW⟩⟩ rfl rfl hl.1 rfl (lv_room (Nat.le_of_ble_eq_true rfl)) dX4_cutOver_45 ⟨Nat.zero_le _, Nat.zero_le _⟩) hS (fun _ _ h => h) (fun _ h => h) (fun r u t H locs ht hvm hw hB _ _ hS => ?_)
            rw [hw.1]; have hB : zt_B G u t := hB; rw [hw.2] at hB; have hP := zt_B.P hB ht
            refine lv_if_eq (tgt := 55) hx hb dX4_cutOver_48 (by decide) (fun c8 => ?_) (fun c8 => ?_)
            · have hf := (if_pos c8).symm.trans hf
              exact B55 rc7 hrc7 u1 u2 u3 u4 _ _ _ hf hP hS (lv_sub hl [0, 1, 2, 3, 4] rfl)
            · have hf := (if_neg c8).symm.trans hf
              refine lv_iconst (v := 1) hx hb dX4_cutOver_51 (by decide) ?_
              refine lv_goto (tgt := 56) hx hb dX4_cutOver_52 (by decide) ?_
              exact B56 rc7 hrc7 1 u1 u2 u3 u4 _ _ _ hf hP hS (lv_sub hl [0, 1, 2, 3, 4] rfl)
  unfold f_X4_cutOver at hf
  refine lv_iconst (v := (-1)) hx hb dX4_cutOver_0 (by decide) ?_
  refine lv_istore_n (lv' := [(2, .int (-1)), (0, .ref (zt_ad G k0)), (1, .int x1)]) hx hb dX4_cutOver_1 rfl hl (by decide) rfl (fun ls hl => ?_)
  refine lv_iconst (v := (-1)) hx hb dX4_cutOver_2 (by decide) ?_
  refine lv_istore_n (lv' := [(3, .int (-1)), (2, .int (-1)), (0, .ref (zt_ad G k0)), (1, .int x1)]) hx hb dX4_cutOver_3 rfl hl (by decide) rfl (fun ls hl => ?_)
  refine lv_iconst (v := 0) hx hb dX4_cutOver_4 (by decide) ?_
  refine lv_istore (lv' := [(4, .int 0), (3, .int (-1)), (2, .int (-1)), (0, .ref (zt_ad G k0)), (1, .int x1)]) hx hb dX4_cutOver_5 hl (by decide) rfl (fun ls hl => ?_)
  exact B7 zt_FU x1 (-1) (-1) 0 _ _ _ hf hP hS (lv_sub hl [3, 4, 2, 1, 0] rfl)

theorem zh_X4_treeOver : yX4_treeOver.cls = RX4 ∧ yX4_treeOver.cls ≠ "java/lang/invoke/MethodHandle" ∧ yX4_treeOver.cls ≠ "java/lang/invoke/VarHandle" ∧ (parseMethodDescriptor yX4_treeOver.desc).map (fun d => d.parameters.length) = some 1 := by decide +kernel
set_option maxHeartbeats 4000000 in
set_option maxRecDepth 100000 in
theorem m_X4_treeOver (l : Launch) (G : zt_G) {σ : zt_St} {k0 : Nat} (hk0 : zt_kd k0 = 3) {x1 : Int32} {r : Int32} (hf : f_X4_treeOver σ k0 x1 = some r) : zt_Mi l G yX4_treeOver wsX4_treeOver 1 23 [.ref (zt_ad G k0), .int x1] σ r σ := by
  refine Met.ofW (cc := cX4_treeOver) (maxL := 3) (ret := (some .int)) (by decide) rfl ?_
  intro p e s m args below meth c s₁ B hml hv
  obtain ⟨rfl, hBB⟩ := hv
  have hE := zt_B.env hBB; have hK := hE.2.1; have hP := hBB.2.1
  have hx := B.exec; have hb := B.bytes; have hr := B.returns; have hts := atoms_spec (ws := wsX4_treeOver) B.pre
  have hown : s.vm.findClass RX4 = some m.cls := findClass_of_methodNamed B.named
  have hlocks := B.notSynchronized
  have hS : va_S (zt_A G) s.heap s.heap [] := va_S.rf
  have hl := lv_entry ([.ref (zt_ad G k0), .int x1]) (n := 3) (Nat.le_of_ble_eq_true rfl)
  rw [lg_entry_eq]
  generalize (lg_sl ([.ref (zt_ad G k0), .int x1]) ++ List.replicate (3 - (lg_sl ([.ref (zt_ad G k0), .int x1])).length) Slot.unset).toArray = ls at hl ⊢
  have hl : lv_has ls 3 [(0, .ref (zt_ad G k0)), (1, .int x1)] := hl
  show W p l e (zt_R 1 23) s m ([.ref (zt_ad G k0), .int x1] : List Value).toArray below meth c s.heap [] 0 0 (MQ below (zt_Ci G r σ) ([.ref (zt_ad G k0), .int x1] : List Value).toArray s 0 0 (zt_A G)) (F0 m 0 ls [])
  have fl9 := hts (.fieldLink RX4 9 "ZoneTree$Records" "places" "[I") (List.mem_cons_of_mem _ (List.mem_append_left _ (List.mem_of_getElem? (i := 1) rfl)))
  have fl15 := hts (.fieldLink RX4 15 "ZoneTree$Records" "sorts" "[I") (List.mem_cons_of_mem _ (List.mem_append_left _ (List.mem_of_getElem? (i := 2) rfl)))
  have fl24 := hts (.fieldLink RX4 24 "ZoneTree$Records" "count" "I") (List.mem_cons_of_mem _ (List.mem_append_left _ (List.mem_of_getElem? (i := 0) rfl)))
  have inX4 : ∀ w ∈ wsX40, w ∈ wsX4_treeOver := fun w h => (List.mem_cons_of_mem _ (List.mem_append_right _ h))
  have B54 : ∀ (rc2 : Int32 → Int32 → Option (Int32)) (hrc2 : ∀ (u1 : Int32) (u2 : Int32) (H : Heap) (locs : List Loc) (ls : Array Slot), rc2 u1 u2 = some r → va_P (zt_D G) vwCl (zt_ww G σ) H → va_S (zt_A G) s.heap H locs → lv_has ls 3 [(0, .ref (zt_ad G k0)), (1, .int u1), (2, .int u2)] → W p l e (zt_R 1 23) s m ([.ref (zt_ad G k0), .int x1] : List Value).toArray below meth c H locs 0 0 (MQ below (zt_Ci G r σ) ([.ref (zt_ad G k0), .int x1] : List Value).toArray s 0 0 (zt_A G)) (F0 m 2 ls [])), ∀ (u1 : Int32) (u2 : Int32) (H : Heap) (locs : List Loc) (ls : Array Slot), f_X4_treeOver_54 σ k0 rc2 u1 u2 = some r → va_P (zt_D G) vwCl (zt_ww G σ) H → va_S (zt_A G) s.heap H locs → lv_has ls 3 [(0, .ref (zt_ad G k0)), (1, .int u1), (2, .int u2)] → W p l e (zt_R 1 23) s m ([.ref (zt_ad G k0), .int x1] : List Value).toArray below meth c H locs 0 0 (MQ below (zt_Ci G r σ) ([.ref (zt_ad G k0), .int x1] : List Value).toArray s 0 0 (zt_A G)) (F0 m 54 ls []) := by
    intro rc2 hrc2 u1 u2 H locs ls hf hP hS hl
    unfold f_X4_treeOver_54 at hf
    refine lv_iinc (v := (u2 + 1)) (lv' := [(2, .int (u2 + 1)), (0, .ref (zt_ad G k0)), (1, .int u1)]) hx hb dX4_treeOver_54 hl (k := 2) rfl rfl (by decide) rfl (fun ls hl => ?_)
    refine lv_goto (tgt := 2) hx hb dX4_treeOver_57 (by decide) ?_
    exact hrc2 u1 (u2 + 1) _ _ _ hf hP hS (lv_sub hl [1, 2, 0] rfl)
  have B2 : ∀ (n : Nat), ∀ (u1 : Int32) (u2 : Int32) (H : Heap) (locs : List Loc) (ls : Array Slot), f_X4_treeOver_2 σ k0 n u1 u2 = some r → va_P (zt_D G) vwCl (zt_ww G σ) H → va_S (zt_A G) s.heap H locs → lv_has ls 3 [(0, .ref (zt_ad G k0)), (1, .int u1), (2, .int u2)] → W p l e (zt_R 1 23) s m ([.ref (zt_ad G k0), .int x1] : List Value).toArray below meth c H locs 0 0 (MQ below (zt_Ci G r σ) ([.ref (zt_ad G k0), .int x1] : List Value).toArray s 0 0 (zt_A G)) (F0 m 2 ls []) := by
    intro n
    induction n with
    | zero => intro u1 u2 H locs ls hf; exact nomatch hf
    | succ n hrc2 =>
      intro u1 u2 H locs ls hf hP hS hl
      generalize hrcg : f_X4_treeOver_2 σ k0 n = rc2 at hrc2
      have hf : f_X4_treeOver_2b σ k0 rc2 u1 u2 = some r := by rw [← hrcg]; exact hf
      unfold f_X4_treeOver_2b at hf
      refine lv_iload_n hx hb dX4_treeOver_2 rfl (lv_at hl 2 rfl) ?_
      refine lv_aload_n hx hb dX4_treeOver_3 rfl (lv_at hl 0 rfl) ?_
      refine va_get (D := zt_D G) (ci := 3) (v := .int (σ k0 4)) (C := RX4) (T := TX4) (N := 5) hx hb hts inX4 hown hK hP k0 (zt_a3 hk0) rfl 4 (by decide) fl24 (fun _ h9 => h9) rfl dX4_treeOver_4 ?_
      refine lv_icmp_ge (tgt := 60) hx hb dX4_treeOver_7 (by decide) (fun c1 => ?_) (fun c1 => ?_)
      · have hf := (if_pos c1).symm.trans hf
        refine lv_iconst (v := (-1)) hx hb dX4_treeOver_60 (by decide) ?_
        exact W.iret hx hb hr (fun t ht hW => ⟨⟨_, _, rfl, ⟨Option.some.inj hf, rfl⟩, zt_go hE hP hS zt_id ht hW⟩, hS.F ht⟩) hS.2.2 dX4_treeOver_61
      · have hf := (if_neg c1).symm.trans hf
        refine lv_iload_n hx hb dX4_treeOver_10 rfl (lv_at hl 2 rfl) ?_
        refine lv_aload_n hx hb dX4_treeOver_11 rfl (lv_at hl 0 rfl) ?_
        refine va_get (D := zt_D G) (ci := 3) (v := .ref (zt_ad G (k0 + 1))) (C := RX4) (T := TX4) (N := 5) hx hb hts inX4 hown hK hP k0 (zt_a3 hk0) rfl 0 (by decide) fl9 (fun _ h9 => h9) rfl dX4_treeOver_12 ?_
        refine va_alen hx hb hK hP (k0 + 1) 0 (zt_a9 (zt_k3_0 hk0)) rfl (v := Int32.ofNat (zt_ln (k0 + 1))) rfl dX4_treeOver_15 ?_
        refine lv_icmp_ge (tgt := 60) hx hb dX4_treeOver_16 (by decide) (fun c2 => ?_) (fun c2 => ?_)
        · have hf := (if_pos c2).symm.trans hf
          refine lv_iconst (v := (-1)) hx hb dX4_treeOver_60 (by decide) ?_
          exact W.iret hx hb hr (fun t ht hW => ⟨⟨_, _, rfl, ⟨Option.some.inj hf, rfl⟩, zt_go hE hP hS zt_id ht hW⟩, hS.F ht⟩) hS.2.2 dX4_treeOver_61
        · have hf := (if_neg c2).symm.trans hf
          refine lv_aload_n hx hb dX4_treeOver_19 rfl (lv_at hl 0 rfl) ?_
          refine va_get (D := zt_D G) (ci := 3) (v := .ref (zt_ad G (k0 + 2))) (C := RX4) (T := TX4) (N := 5) hx hb hts inX4 hown hK hP k0 (zt_a3 hk0) rfl 1 (by decide) fl15 (fun _ h9 => h9) rfl dX4_treeOver_20 ?_
          refine lv_iload_n hx hb dX4_treeOver_23 rfl (lv_at hl 2 rfl) ?_
          obtain ⟨g3, hf⟩ := zt_gd_some hf
          refine va_iald hx hb hK hP (k0 + 2) 0 (zt_a9 (zt_k3_1 hk0)) rfl (zt_gI_in g3) dX4_treeOver_24 ?_
          refine lv_iconst (v := 2) hx hb dX4_treeOver_25 (by decide) ?_
          refine lv_icmp_ne (tgt := 54) hx hb dX4_treeOver_26 (by decide) (fun c4 => ?_) (fun c4 => ?_)
          · have hf := (if_neg c4).symm.trans hf
            exact B54 rc2 hrc2 u1 u2 _ _ _ hf hP hS (lv_sub hl [0, 1, 2] rfl)
          · have hf := (if_pos c4).symm.trans hf
            refine lv_aload_n hx hb dX4_treeOver_29 rfl (lv_at hl 0 rfl) ?_
            refine va_get (D := zt_D G) (ci := 3) (v := .ref (zt_ad G (k0 + 1))) (C := RX4) (T := TX4) (N := 5) hx hb hts inX4 hown hK hP k0 (zt_a3 hk0) rfl 0 (by decide) fl9 (fun _ h9 => h9) rfl dX4_treeOver_30 ?_
            refine lv_iload_n hx hb dX4_treeOver_33 rfl (lv_at hl 2 rfl) ?_
            obtain ⟨g5, hf⟩ := zt_gd_some hf
            refine va_iald hx hb hK hP (k0 + 1) 0 (zt_a9 (zt_k3_0 hk0)) rfl (zt_gI_in g5) dX4_treeOver_34 ?_
            refine lv_iload_n hx hb dX4_treeOver_35 rfl (lv_at hl 1 rfl) ?_
            refine lv_icmp_eq (tgt := 54) hx hb dX4_treeOver_36 (by decide) (fun c6 => ?_) (fun c6 => ?_)
            · have hf := (if_pos c6).symm.trans hf
              exact B54 rc2 hrc2 u1 u2 _ _ _ hf hP hS (lv_sub hl [0, 1, 2] rfl)
            · have hf := (if_neg c6).symm.trans hf
              refine lv_iload_n hx hb dX4_treeOver_39 rfl (lv_at hl 1 rfl) ?_
              refine lv_aload_n hx hb dX4_treeOver_40 rfl (lv_at hl 0 rfl) ?_
              refine va_get (D := zt_D G) (ci := 3) (v := .ref (zt_ad G (k0 + 1))) (C := RX4) (T := TX4) (N := 5) hx hb hts inX4 hown hK hP k0 (zt_a3 hk0) rfl 0 (by decide) fl9 (fun _ h9 => h9) rfl dX4_treeOver_41 ?_
              refine lv_iload_n hx hb dX4_treeOver_44 rfl (lv_at hl 2 rfl) ?_
              obtain ⟨g7, hf⟩ := zt_gd_some hf
              refine va_iald hx hb hK hP (k0 + 1) 0 (zt_a9 (zt_k3_0 hk0)) rfl (zt_gI_in g7) dX4_treeOver_45 ?_
              obtain ⟨v8, hvv8, hf⟩ := zt_bd_some hf
              refine va_calli (va_runS (As := [.int u1, .int (σ (k0 + 1) u2.toNatClampNeg)]) (rest := []) ⟨hx, hb, hml, hown, hts⟩ (m_X3_isUnder l G (σ := σ) hvv8) (va_cwS 2 hts gX4_treeOver_X3_isUnder rfl rfl rfl zh_X3_isUnder ⟨Nat.le_of_ble_eq_true rfl, Nat.le_of_ble_eq_true rfl⟩) ⟨zt_blind, fun U hU hW => ⟨rfl, zt_go hE hP hS zt_id hU hW⟩⟩ rfl rfl hl.1 rfl (lv_room (Nat.le_of_ble_eq_true rfl)) dX4_treeOver_46 ⟨Nat.zero_le _, Nat.zero_le _⟩) hS (fun _ _ h => h) (fun _ h => h) (fun r u t H locs ht hvm hw hB _ _ hS => ?_)
              rw [hw.1]; have hB : zt_B G u t := hB; rw [hw.2] at hB; have hP := zt_B.P hB ht
              refine lv_if_eq (tgt := 54) hx hb dX4_treeOver_49 (by decide) (fun c10 => ?_) (fun c10 => ?_)
              · have hf := (if_pos c10).symm.trans hf
                exact B54 rc2 hrc2 u1 u2 _ _ _ hf hP hS (lv_sub hl [0, 1, 2] rfl)
              · have hf := (if_neg c10).symm.trans hf
                refine lv_iload_n hx hb dX4_treeOver_52 rfl (lv_at hl 2 rfl) ?_
                exact W.iret hx hb hr (fun t ht hW => ⟨⟨_, _, rfl, ⟨Option.some.inj hf, rfl⟩, zt_go hE hP hS zt_id ht hW⟩, hS.F ht⟩) hS.2.2 dX4_treeOver_53
  unfold f_X4_treeOver at hf
  refine lv_iconst (v := 0) hx hb dX4_treeOver_0 (by decide) ?_
  refine lv_istore_n (lv' := [(2, .int 0), (0, .ref (zt_ad G k0)), (1, .int x1)]) hx hb dX4_treeOver_1 rfl hl (by decide) rfl (fun ls hl => ?_)
  exact B2 zt_FU x1 0 _ _ _ hf hP hS (lv_sub hl [1, 2, 0] rfl)

theorem zh_X4_isOwn : yX4_isOwn.cls = RX4 ∧ yX4_isOwn.cls ≠ "java/lang/invoke/MethodHandle" ∧ yX4_isOwn.cls ≠ "java/lang/invoke/VarHandle" ∧ (parseMethodDescriptor yX4_isOwn.desc).map (fun d => d.parameters.length) = some 1 := by decide +kernel
set_option maxHeartbeats 4000000 in
set_option maxRecDepth 100000 in
theorem m_X4_isOwn (l : Launch) (G : zt_G) {σ : zt_St} {k0 : Nat} (hk0 : zt_kd k0 = 3) {x1 : Int32} {r : Int32} (hf : f_X4_isOwn σ k0 x1 = some r) : zt_Mi l G yX4_isOwn wsX4_isOwn 2 48 [.ref (zt_ad G k0), .int x1] σ r σ := by
  refine Met.ofW (cc := cX4_isOwn) (maxL := 3) (ret := (some .boolean)) (by decide) rfl ?_
  intro p e s m args below meth c s₁ B hml hv
  obtain ⟨rfl, hBB⟩ := hv
  have hE := zt_B.env hBB; have hK := hE.2.1; have hP := hBB.2.1
  have hx := B.exec; have hb := B.bytes; have hr := B.returns; have hts := atoms_spec (ws := wsX4_isOwn) B.pre
  have hown : s.vm.findClass RX4 = some m.cls := findClass_of_methodNamed B.named
  have hlocks := B.notSynchronized
  have hS : va_S (zt_A G) s.heap s.heap [] := va_S.rf
  have hl := lv_entry ([.ref (zt_ad G k0), .int x1]) (n := 3) (Nat.le_of_ble_eq_true rfl)
  rw [lg_entry_eq]
  generalize (lg_sl ([.ref (zt_ad G k0), .int x1]) ++ List.replicate (3 - (lg_sl ([.ref (zt_ad G k0), .int x1])).length) Slot.unset).toArray = ls at hl ⊢
  have hl : lv_has ls 3 [(0, .ref (zt_ad G k0)), (1, .int x1)] := hl
  show W p l e (zt_R 2 48) s m ([.ref (zt_ad G k0), .int x1] : List Value).toArray below meth c s.heap [] 0 0 (MQ below (zt_Ci G r σ) ([.ref (zt_ad G k0), .int x1] : List Value).toArray s 0 0 (zt_A G)) (F0 m 0 ls [])
  have B23 : ∀ (H : Heap) (locs : List Loc) (ls : Array Slot), f_X4_isOwn_23 σ k0 = some r → va_P (zt_D G) vwCl (zt_ww G σ) H → va_S (zt_A G) s.heap H locs → lv_has ls 3 [] → W p l e (zt_R 2 48) s m ([.ref (zt_ad G k0), .int x1] : List Value).toArray below meth c H locs 0 0 (MQ below (zt_Ci G r σ) ([.ref (zt_ad G k0), .int x1] : List Value).toArray s 0 0 (zt_A G)) (F0 m 23 ls []) := by
    intro H locs ls hf hP hS hl
    unfold f_X4_isOwn_23 at hf
    refine lv_iconst (v := 1) hx hb dX4_isOwn_23 (by decide) ?_
    refine lv_goto (tgt := 28) hx hb dX4_isOwn_24 (by decide) ?_
    exact W.zret hx hb hr (zt_bn (by decide)).1 (fun t ht hW => ⟨⟨_, _, rfl, ⟨Option.some.inj hf, rfl⟩, zt_go hE hP hS zt_id ht hW⟩, hS.F ht⟩) hS.2.2 dX4_isOwn_28
  unfold f_X4_isOwn at hf
  refine lv_aload_n hx hb dX4_isOwn_0 rfl (lv_at hl 0 rfl) ?_
  refine lv_iload_n hx hb dX4_isOwn_1 rfl (lv_at hl 1 rfl) ?_
  obtain ⟨v1, hvv1, hf⟩ := zt_bd_some hf
  refine va_calli (va_runS (As := [.int x1]) (rest := [.ref (zt_ad G k0)]) ⟨hx, hb, hml, hown, hts⟩ (m_X3_nameOf l G (σ := σ) hvv1) (va_cwS 1 hts gX4_isOwn_X3_nameOf rfl rfl rfl zh_X3_nameOf ⟨Nat.le_of_ble_eq_true rfl, Nat.le_of_ble_eq_true rfl⟩) ⟨zt_blind, fun U hU hW => ⟨rfl, zt_go hE hP hS zt_id hU hW⟩⟩ rfl rfl hl.1 rfl (lv_room (Nat.le_of_ble_eq_true rfl)) dX4_isOwn_2 ⟨Nat.zero_le _, Nat.zero_le _⟩) hS (fun _ _ h => h) (fun _ h => h) (fun r u t H locs ht hvm hw hB _ _ hS => ?_)
  rw [hw.1]; have hB : zt_B G u t := hB; rw [hw.2] at hB; have hP := zt_B.P hB ht
  obtain ⟨v3, hvv3, hf⟩ := zt_bd_some hf
  refine va_calli (va_runV (As := [.int v1]) (rest := []) ⟨hx, hb, hml, hown, hts⟩ (m_X4_cutOver l G hk0 (σ := σ) hvv3) (cwV 1 hts gX4_isOwn_X4_cutOver rfl rfl rfl zh_X4_cutOver ⟨Nat.le_of_ble_eq_true rfl, Nat.le_of_ble_eq_true rfl⟩) ⟨zt_blind, va_recv hK hP (ci := 3) (q0 := k0) rfl (zt_a3 hk0), fun U hU hW => ⟨rfl, zt_go hE hP hS zt_id hU hW⟩⟩ rfl rfl hl.1 rfl (lv_room (Nat.le_of_ble_eq_true rfl)) dX4_isOwn_5 ⟨Nat.zero_le _, Nat.zero_le _⟩) hS (fun _ _ h => h) (fun _ h => h) (fun r u t H locs ht hvm hw hB _ _ hS => ?_)
  rw [hw.1]; have hB : zt_B G u t := hB; rw [hw.2] at hB; have hP := zt_B.P hB ht
  refine lv_istore_n (lv' := [(2, .int v3), (0, .ref (zt_ad G k0)), (1, .int x1)]) hx hb dX4_isOwn_8 rfl hl (by decide) rfl (fun ls hl => ?_)
  refine lv_iload_n hx hb dX4_isOwn_9 rfl (lv_at hl 0 rfl) ?_
  refine lv_iconst (v := (-1)) hx hb dX4_isOwn_10 (by decide) ?_
  refine lv_icmp_eq (tgt := 23) hx hb dX4_isOwn_11 (by decide) (fun c5 => ?_) (fun c5 => ?_)
  · have hf := (if_pos c5).symm.trans hf
    exact B23 _ _ _ hf hP hS (lv_sub hl [] rfl)
  · have hf := (if_neg c5).symm.trans hf
    refine lv_aload_n hx hb dX4_isOwn_14 rfl (lv_at hl 1 rfl) ?_
    refine lv_iload_n hx hb dX4_isOwn_15 rfl (lv_at hl 0 rfl) ?_
    obtain ⟨v6, hvv6, hf⟩ := zt_bd_some hf
    refine va_calli (va_runV (As := [.int v3]) (rest := []) ⟨hx, hb, hml, hown, hts⟩ (m_X4_placeAt l G hk0 (σ := σ) hvv6) (cwV 1 hts gX4_isOwn_X4_placeAt rfl rfl rfl zh_X4_placeAt ⟨Nat.le_of_ble_eq_true rfl, Nat.le_of_ble_eq_true rfl⟩) ⟨zt_blind, va_recv hK hP (ci := 3) (q0 := k0) rfl (zt_a3 hk0), fun U hU hW => ⟨rfl, zt_go hE hP hS zt_id hU hW⟩⟩ rfl rfl hl.1 rfl (lv_room (Nat.le_of_ble_eq_true rfl)) dX4_isOwn_16 ⟨Nat.zero_le _, Nat.zero_le _⟩) hS (fun _ _ h => h) (fun _ h => h) (fun r u t H locs ht hvm hw hB _ _ hS => ?_)
    rw [hw.1]; have hB : zt_B G u t := hB; rw [hw.2] at hB; have hP := zt_B.P hB ht
    refine lv_iload_n hx hb dX4_isOwn_19 rfl (lv_at hl 2 rfl) ?_
    refine lv_icmp_ne (tgt := 27) hx hb dX4_isOwn_20 (by decide) (fun c8 => ?_) (fun c8 => ?_)
    · have hf := (if_neg c8).symm.trans hf
      refine lv_iconst (v := 0) hx hb dX4_isOwn_27 (by decide) ?_
      exact W.zret hx hb hr (zt_bn (by decide)).1 (fun t ht hW => ⟨⟨_, _, rfl, ⟨Option.some.inj hf, rfl⟩, zt_go hE hP hS zt_id ht hW⟩, hS.F ht⟩) hS.2.2 dX4_isOwn_28
    · have hf := (if_pos c8).symm.trans hf
      exact B23 _ _ _ hf hP hS (lv_sub hl [] rfl)

theorem zh_X4_countNotIn : yX4_countNotIn.cls = RX4 ∧ yX4_countNotIn.cls ≠ "java/lang/invoke/MethodHandle" ∧ yX4_countNotIn.cls ≠ "java/lang/invoke/VarHandle" ∧ (parseMethodDescriptor yX4_countNotIn.desc).map (fun d => d.parameters.length) = some 1 := by decide +kernel
set_option maxHeartbeats 4000000 in
set_option maxRecDepth 100000 in
theorem m_X4_countNotIn (l : Launch) (G : zt_G) {σ : zt_St} {k0 : Nat} (hk0 : zt_kd k0 = 3) {k1 : Nat} (hk1 : zt_kd k1 = 3) {r : Int32} (hf : f_X4_countNotIn σ k0 k1 = some r) : zt_Mi l G yX4_countNotIn wsX4_countNotIn 1 23 [.ref (zt_ad G k0), .ref (zt_ad G k1)] σ r σ := by
  refine Met.ofW (cc := cX4_countNotIn) (maxL := 5) (ret := (some .int)) (by decide) rfl ?_
  intro p e s m args below meth c s₁ B hml hv
  obtain ⟨rfl, hBB⟩ := hv
  have hE := zt_B.env hBB; have hK := hE.2.1; have hP := hBB.2.1
  have hx := B.exec; have hb := B.bytes; have hr := B.returns; have hts := atoms_spec (ws := wsX4_countNotIn) B.pre
  have hown : s.vm.findClass RX4 = some m.cls := findClass_of_methodNamed B.named
  have hlocks := B.notSynchronized
  have hS : va_S (zt_A G) s.heap s.heap [] := va_S.rf
  have hl := lv_entry ([.ref (zt_ad G k0), .ref (zt_ad G k1)]) (n := 5) (Nat.le_of_ble_eq_true rfl)
  rw [lg_entry_eq]
  generalize (lg_sl ([.ref (zt_ad G k0), .ref (zt_ad G k1)]) ++ List.replicate (5 - (lg_sl ([.ref (zt_ad G k0), .ref (zt_ad G k1)])).length) Slot.unset).toArray = ls at hl ⊢
  have hl : lv_has ls 5 [(0, .ref (zt_ad G k0)), (1, .ref (zt_ad G k1))] := hl
  show W p l e (zt_R 1 23) s m ([.ref (zt_ad G k0), .ref (zt_ad G k1)] : List Value).toArray below meth c s.heap [] 0 0 (MQ below (zt_Ci G r σ) ([.ref (zt_ad G k0), .ref (zt_ad G k1)] : List Value).toArray s 0 0 (zt_A G)) (F0 m 0 ls [])
  have fl24 := hts (.fieldLink RX4 24 "ZoneTree$Records" "count" "I") (List.mem_cons_of_mem _ (List.mem_append_left _ (List.mem_append_left _ (List.mem_of_getElem? (i := 0) rfl))))
  have inX4 : ∀ w ∈ wsX40, w ∈ wsX4_countNotIn := fun w h => (List.mem_cons_of_mem _ (List.mem_append_right _ h))
  have B65 : ∀ (rc4 : Int32 → Int32 → Option (Int32)) (hrc4 : ∀ (u2 : Int32) (u3 : Int32) (H : Heap) (locs : List Loc) (ls : Array Slot), rc4 u2 u3 = some r → va_P (zt_D G) vwCl (zt_ww G σ) H → va_S (zt_A G) s.heap H locs → lv_has ls 5 [(0, .ref (zt_ad G k0)), (1, .ref (zt_ad G k1)), (2, .int u2), (3, .int u3)] → W p l e (zt_R 1 23) s m ([.ref (zt_ad G k0), .ref (zt_ad G k1)] : List Value).toArray below meth c H locs 0 0 (MQ below (zt_Ci G r σ) ([.ref (zt_ad G k0), .ref (zt_ad G k1)] : List Value).toArray s 0 0 (zt_A G)) (F0 m 4 ls [])), ∀ (u2 : Int32) (u3 : Int32) (H : Heap) (locs : List Loc) (ls : Array Slot), f_X4_countNotIn_65 σ k0 k1 rc4 u2 u3 = some r → va_P (zt_D G) vwCl (zt_ww G σ) H → va_S (zt_A G) s.heap H locs → lv_has ls 5 [(0, .ref (zt_ad G k0)), (1, .ref (zt_ad G k1)), (2, .int u2), (3, .int u3)] → W p l e (zt_R 1 23) s m ([.ref (zt_ad G k0), .ref (zt_ad G k1)] : List Value).toArray below meth c H locs 0 0 (MQ below (zt_Ci G r σ) ([.ref (zt_ad G k0), .ref (zt_ad G k1)] : List Value).toArray s 0 0 (zt_A G)) (F0 m 65 ls []) := by
    intro rc4 hrc4 u2 u3 H locs ls hf hP hS hl
    unfold f_X4_countNotIn_65 at hf
    refine lv_iinc (v := (u3 + 1)) (lv' := [(3, .int (u3 + 1)), (0, .ref (zt_ad G k0)), (1, .ref (zt_ad G k1)), (2, .int u2)]) hx hb dX4_countNotIn_65 hl (k := 3) rfl rfl (by decide) rfl (fun ls hl => ?_)
    refine lv_goto (tgt := 4) hx hb dX4_countNotIn_68 (by decide) ?_
    exact hrc4 u2 (u3 + 1) _ _ _ hf hP hS (lv_sub hl [1, 2, 3, 0] rfl)
  have B62 : ∀ (rc4 : Int32 → Int32 → Option (Int32)) (hrc4 : ∀ (u2 : Int32) (u3 : Int32) (H : Heap) (locs : List Loc) (ls : Array Slot), rc4 u2 u3 = some r → va_P (zt_D G) vwCl (zt_ww G σ) H → va_S (zt_A G) s.heap H locs → lv_has ls 5 [(0, .ref (zt_ad G k0)), (1, .ref (zt_ad G k1)), (2, .int u2), (3, .int u3)] → W p l e (zt_R 1 23) s m ([.ref (zt_ad G k0), .ref (zt_ad G k1)] : List Value).toArray below meth c H locs 0 0 (MQ below (zt_Ci G r σ) ([.ref (zt_ad G k0), .ref (zt_ad G k1)] : List Value).toArray s 0 0 (zt_A G)) (F0 m 4 ls [])), ∀ (u2 : Int32) (u3 : Int32) (H : Heap) (locs : List Loc) (ls : Array Slot), f_X4_countNotIn_62 σ k0 k1 rc4 u2 u3 = some r → va_P (zt_D G) vwCl (zt_ww G σ) H → va_S (zt_A G) s.heap H locs → lv_has ls 5 [(0, .ref (zt_ad G k0)), (1, .ref (zt_ad G k1)), (2, .int u2), (3, .int u3)] → W p l e (zt_R 1 23) s m ([.ref (zt_ad G k0), .ref (zt_ad G k1)] : List Value).toArray below meth c H locs 0 0 (MQ below (zt_Ci G r σ) ([.ref (zt_ad G k0), .ref (zt_ad G k1)] : List Value).toArray s 0 0 (zt_A G)) (F0 m 62 ls []) := by
    intro rc4 hrc4 u2 u3 H locs ls hf hP hS hl
    unfold f_X4_countNotIn_62 at hf
    refine lv_iinc (v := (u2 + 1)) (lv' := [(2, .int (u2 + 1)), (0, .ref (zt_ad G k0)), (1, .ref (zt_ad G k1)), (3, .int u3)]) hx hb dX4_countNotIn_62 hl (k := 2) rfl rfl (by decide) rfl (fun ls hl => ?_)
    exact B65 rc4 hrc4 (u2 + 1) u3 _ _ _ hf hP hS (lv_sub hl [1, 2, 0, 3] rfl)
  have B4 : ∀ (n : Nat), ∀ (u2 : Int32) (u3 : Int32) (H : Heap) (locs : List Loc) (ls : Array Slot), f_X4_countNotIn_4 σ k0 k1 n u2 u3 = some r → va_P (zt_D G) vwCl (zt_ww G σ) H → va_S (zt_A G) s.heap H locs → lv_has ls 5 [(0, .ref (zt_ad G k0)), (1, .ref (zt_ad G k1)), (2, .int u2), (3, .int u3)] → W p l e (zt_R 1 23) s m ([.ref (zt_ad G k0), .ref (zt_ad G k1)] : List Value).toArray below meth c H locs 0 0 (MQ below (zt_Ci G r σ) ([.ref (zt_ad G k0), .ref (zt_ad G k1)] : List Value).toArray s 0 0 (zt_A G)) (F0 m 4 ls []) := by
    intro n
    induction n with
    | zero => intro u2 u3 H locs ls hf; exact nomatch hf
    | succ n hrc4 =>
      intro u2 u3 H locs ls hf hP hS hl
      generalize hrcg : f_X4_countNotIn_4 σ k0 k1 n = rc4 at hrc4
      have hf : f_X4_countNotIn_4b σ k0 k1 rc4 u2 u3 = some r := by rw [← hrcg]; exact hf
      unfold f_X4_countNotIn_4b at hf
      refine lv_iload_n hx hb dX4_countNotIn_4 rfl (lv_at hl 3 rfl) ?_
      refine lv_aload_n hx hb dX4_countNotIn_5 rfl (lv_at hl 0 rfl) ?_
      refine va_get (D := zt_D G) (ci := 3) (v := .int (σ k0 4)) (C := RX4) (T := TX4) (N := 5) hx hb hts inX4 hown hK hP k0 (zt_a3 hk0) rfl 4 (by decide) fl24 (fun _ h9 => h9) rfl dX4_countNotIn_6 ?_
      refine lv_icmp_ge (tgt := 71) hx hb dX4_countNotIn_9 (by decide) (fun c1 => ?_) (fun c1 => ?_)
      · have hf := (if_pos c1).symm.trans hf
        refine lv_iload_n hx hb dX4_countNotIn_71 rfl (lv_at hl 2 rfl) ?_
        exact W.iret hx hb hr (fun t ht hW => ⟨⟨_, _, rfl, ⟨Option.some.inj hf, rfl⟩, zt_go hE hP hS zt_id ht hW⟩, hS.F ht⟩) hS.2.2 dX4_countNotIn_72
      · have hf := (if_neg c1).symm.trans hf
        refine lv_aload_n hx hb dX4_countNotIn_12 rfl (lv_at hl 1 rfl) ?_
        refine lv_aload_n hx hb dX4_countNotIn_13 rfl (lv_at hl 0 rfl) ?_
        refine lv_iload_n hx hb dX4_countNotIn_14 rfl (lv_at hl 3 rfl) ?_
        obtain ⟨v2, hvv2, hf⟩ := zt_bd_some hf
        refine va_calli (va_runV (As := [.int u3]) (rest := [.ref (zt_ad G k1)]) ⟨hx, hb, hml, hown, hts⟩ (m_X4_placeAt l G hk0 (σ := σ) hvv2) (cwV 1 hts gX4_countNotIn_X4_placeAt rfl rfl rfl zh_X4_placeAt ⟨Nat.le_of_ble_eq_true rfl, Nat.le_of_ble_eq_true rfl⟩) ⟨zt_blind, va_recv hK hP (ci := 3) (q0 := k0) rfl (zt_a3 hk0), fun U hU hW => ⟨rfl, zt_go hE hP hS zt_id hU hW⟩⟩ rfl rfl hl.1 rfl (lv_room (Nat.le_of_ble_eq_true rfl)) dX4_countNotIn_15 ⟨Nat.zero_le _, Nat.zero_le _⟩) hS (fun _ _ h => h) (fun _ h => h) (fun r u t H locs ht hvm hw hB _ _ hS => ?_)
        rw [hw.1]; have hB : zt_B G u t := hB; rw [hw.2] at hB; have hP := zt_B.P hB ht
        refine lv_aload_n hx hb dX4_countNotIn_18 rfl (lv_at hl 0 rfl) ?_
        refine lv_iload_n hx hb dX4_countNotIn_19 rfl (lv_at hl 3 rfl) ?_
        obtain ⟨v4, hvv4, hf⟩ := zt_bd_some hf
        refine va_calli (va_runV (As := [.int u3]) (rest := [.int v2, .ref (zt_ad G k1)]) ⟨hx, hb, hml, hown, hts⟩ (m_X4_sortAt l G hk0 (σ := σ) hvv4) (cwV 1 hts gX4_countNotIn_X4_sortAt rfl rfl rfl zh_X4_sortAt ⟨Nat.le_of_ble_eq_true rfl, Nat.le_of_ble_eq_true rfl⟩) ⟨zt_blind, va_recv hK hP (ci := 3) (q0 := k0) rfl (zt_a3 hk0), fun U hU hW => ⟨rfl, zt_go hE hP hS zt_id hU hW⟩⟩ rfl rfl hl.1 rfl (lv_room (Nat.le_of_ble_eq_true rfl)) dX4_countNotIn_20 ⟨Nat.zero_le _, Nat.zero_le _⟩) hS (fun _ _ h => h) (fun _ h => h) (fun r u t H locs ht hvm hw hB _ _ hS => ?_)
        rw [hw.1]; have hB : zt_B G u t := hB; rw [hw.2] at hB; have hP := zt_B.P hB ht
        obtain ⟨v6, hvv6, hf⟩ := zt_bd_some hf
        refine va_calli (va_runV (As := [.int v2, .int v4]) (rest := []) ⟨hx, hb, hml, hown, hts⟩ (m_X4_rowOf l G hk1 (σ := σ) hvv6) (cwV 2 hts gX4_countNotIn_X4_rowOf rfl rfl rfl zh_X4_rowOf ⟨Nat.le_of_ble_eq_true rfl, Nat.le_of_ble_eq_true rfl⟩) ⟨zt_blind, va_recv hK hP (ci := 3) (q0 := k1) rfl (zt_a3 hk1), fun U hU hW => ⟨rfl, zt_go hE hP hS zt_id hU hW⟩⟩ rfl rfl hl.1 rfl (lv_room (Nat.le_of_ble_eq_true rfl)) dX4_countNotIn_23 ⟨Nat.zero_le _, Nat.zero_le _⟩) hS (fun _ _ h => h) (fun _ h => h) (fun r u t H locs ht hvm hw hB _ _ hS => ?_)
        rw [hw.1]; have hB : zt_B G u t := hB; rw [hw.2] at hB; have hP := zt_B.P hB ht
        refine lv_istore (lv' := [(4, .int v6), (0, .ref (zt_ad G k0)), (1, .ref (zt_ad G k1)), (2, .int u2), (3, .int u3)]) hx hb dX4_countNotIn_26 hl (by decide) rfl (fun ls hl => ?_)
        refine lv_iload hx hb dX4_countNotIn_28 (lv_at hl 0 rfl) ?_
        refine lv_iconst (v := (-1)) hx hb dX4_countNotIn_30 (by decide) ?_
        refine lv_icmp_eq (tgt := 62) hx hb dX4_countNotIn_31 (by decide) (fun c8 => ?_) (fun c8 => ?_)
        · have hf := (if_pos c8).symm.trans hf
          exact B62 rc4 hrc4 u2 u3 _ _ _ hf hP hS (lv_sub hl [1, 2, 3, 4] rfl)
        · have hf := (if_neg c8).symm.trans hf
          refine lv_aload_n hx hb dX4_countNotIn_34 rfl (lv_at hl 2 rfl) ?_
          refine lv_iload hx hb dX4_countNotIn_35 (lv_at hl 0 rfl) ?_
          obtain ⟨v9, hvv9, hf⟩ := zt_bd_some hf
          refine va_calli (va_runV (As := [.int v6]) (rest := []) ⟨hx, hb, hml, hown, hts⟩ (m_X4_numberAt l G hk1 (σ := σ) hvv9) (cwV 1 hts gX4_countNotIn_X4_numberAt rfl rfl rfl zh_X4_numberAt ⟨Nat.le_of_ble_eq_true rfl, Nat.le_of_ble_eq_true rfl⟩) ⟨zt_blind, va_recv hK hP (ci := 3) (q0 := k1) rfl (zt_a3 hk1), fun U hU hW => ⟨rfl, zt_go hE hP hS zt_id hU hW⟩⟩ rfl rfl hl.1 rfl (lv_room (Nat.le_of_ble_eq_true rfl)) dX4_countNotIn_37 ⟨Nat.zero_le _, Nat.zero_le _⟩) hS (fun _ _ h => h) (fun _ h => h) (fun r u t H locs ht hvm hw hB _ _ hS => ?_)
          rw [hw.1]; have hB : zt_B G u t := hB; rw [hw.2] at hB; have hP := zt_B.P hB ht
          refine lv_aload_n hx hb dX4_countNotIn_40 rfl (lv_at hl 1 rfl) ?_
          refine lv_iload_n hx hb dX4_countNotIn_41 rfl (lv_at hl 4 rfl) ?_
          obtain ⟨v11, hvv11, hf⟩ := zt_bd_some hf
          refine va_calli (va_runV (As := [.int u3]) (rest := [.int v9]) ⟨hx, hb, hml, hown, hts⟩ (m_X4_numberAt l G hk0 (σ := σ) hvv11) (cwV 1 hts gX4_countNotIn_X4_numberAt rfl rfl rfl zh_X4_numberAt ⟨Nat.le_of_ble_eq_true rfl, Nat.le_of_ble_eq_true rfl⟩) ⟨zt_blind, va_recv hK hP (ci := 3) (q0 := k0) rfl (zt_a3 hk0), fun U hU hW => ⟨rfl, zt_go hE hP hS zt_id hU hW⟩⟩ rfl rfl hl.1 rfl (lv_room (Nat.le_of_ble_eq_true rfl)) dX4_countNotIn_42 ⟨Nat.zero_le _, Nat.zero_le _⟩) hS (fun _ _ h => h) (fun _ h => h) (fun r u t H locs ht hvm hw hB _ _ hS => ?_)
          rw [hw.1]; have hB : zt_B G u t := hB; rw [hw.2] at hB; have hP := zt_B.P hB ht
          refine lv_icmp_ne (tgt := 62) hx hb dX4_countNotIn_45 (by decide) (fun c13 => ?_) (fun c13 => ?_)
          · have hf := (if_neg c13).symm.trans hf
            exact B62 rc4 hrc4 u2 u3 _ _ _ hf hP hS (lv_sub hl [1, 2, 3, 4] rfl)
          · have hf := (if_pos c13).symm.trans hf
            refine lv_aload_n hx hb dX4_countNotIn_48 rfl (lv_at hl 2 rfl) ?_
            refine lv_iload hx hb dX4_countNotIn_49 (lv_at hl 0 rfl) ?_
            obtain ⟨v14, hvv14, hf⟩ := zt_bd_some hf
            refine va_calli (va_runV (As := [.int v6]) (rest := []) ⟨hx, hb, hml, hown, hts⟩ (m_X4_lifeAt l G hk1 (σ := σ) hvv14) (cwV 1 hts gX4_countNotIn_X4_lifeAt rfl rfl rfl zh_X4_lifeAt ⟨Nat.le_of_ble_eq_true rfl, Nat.le_of_ble_eq_true rfl⟩) ⟨zt_blind, va_recv hK hP (ci := 3) (q0 := k1) rfl (zt_a3 hk1), fun U hU hW => ⟨rfl, zt_go hE hP hS zt_id hU hW⟩⟩ rfl rfl hl.1 rfl (lv_room (Nat.le_of_ble_eq_true rfl)) dX4_countNotIn_51 ⟨Nat.zero_le _, Nat.zero_le _⟩) hS (fun _ _ h => h) (fun _ h => h) (fun r u t H locs ht hvm hw hB _ _ hS => ?_)
            rw [hw.1]; have hB : zt_B G u t := hB; rw [hw.2] at hB; have hP := zt_B.P hB ht
            refine lv_aload_n hx hb dX4_countNotIn_54 rfl (lv_at hl 1 rfl) ?_
            refine lv_iload_n hx hb dX4_countNotIn_55 rfl (lv_at hl 4 rfl) ?_
            obtain ⟨v16, hvv16, hf⟩ := zt_bd_some hf
            refine va_calli (va_runV (As := [.int u3]) (rest := [.int v14]) ⟨hx, hb, hml, hown, hts⟩ (m_X4_lifeAt l G hk0 (σ := σ) hvv16) (cwV 1 hts gX4_countNotIn_X4_lifeAt rfl rfl rfl zh_X4_lifeAt ⟨Nat.le_of_ble_eq_true rfl, Nat.le_of_ble_eq_true rfl⟩) ⟨zt_blind, va_recv hK hP (ci := 3) (q0 := k0) rfl (zt_a3 hk0), fun U hU hW => ⟨rfl, zt_go hE hP hS zt_id hU hW⟩⟩ rfl rfl hl.1 rfl (lv_room (Nat.le_of_ble_eq_true rfl)) dX4_countNotIn_56 ⟨Nat.zero_le _, Nat.zero_le _⟩) hS (fun _ _ h => h) (fun _ h => h) (fun r u t H locs ht hvm hw hB _ _ hS => ?_)
            rw [hw.1]; have hB : zt_B G u t := hB; rw [hw.2] at hB; have hP := zt_B.P hB ht
            refine lv_icmp_eq (tgt := 65) hx hb dX4_countNotIn_59 (by decide) (fun c18 => ?_) (fun c18 => ?_)
            · have hf := (if_pos c18).symm.trans hf
              exact B65 rc4 hrc4 u2 u3 _ _ _ hf hP hS (lv_sub hl [1, 2, 3, 4] rfl)
            · have hf := (if_neg c18).symm.trans hf
              exact B62 rc4 hrc4 u2 u3 _ _ _ hf hP hS (lv_sub hl [1, 2, 3, 4] rfl)
  unfold f_X4_countNotIn at hf
  refine lv_iconst (v := 0) hx hb dX4_countNotIn_0 (by decide) ?_
  refine lv_istore_n (lv' := [(2, .int 0), (0, .ref (zt_ad G k0)), (1, .ref (zt_ad G k1))]) hx hb dX4_countNotIn_1 rfl hl (by decide) rfl (fun ls hl => ?_)
  refine lv_iconst (v := 0) hx hb dX4_countNotIn_2 (by decide) ?_
  refine lv_istore_n (lv' := [(3, .int 0), (2, .int 0), (0, .ref (zt_ad G k0)), (1, .ref (zt_ad G k1))]) hx hb dX4_countNotIn_3 rfl hl (by decide) rfl (fun ls hl => ?_)
  exact B4 zt_FU 0 0 _ _ _ hf hP hS (lv_sub hl [2, 3, 1, 0] rfl)

