/-! contracts over the machine, by program: each method does what its function says -/
theorem zh_X1_tell : yX1_tell.cls = RX1 ∧ yX1_tell.cls ≠ "java/lang/invoke/MethodHandle" ∧ yX1_tell.cls ≠ "java/lang/invoke/VarHandle" ∧ (parseMethodDescriptor yX1_tell.desc).map (fun d => d.parameters.length) = some 5 := by decide +kernel
set_option maxHeartbeats 4000000 in
set_option maxRecDepth 100000 in
theorem m_X1_tell (l : Launch) (G : zt_G) {σ : zt_St} {x1 : Int32} {x2 : Int32} {x3 : Int32} {x4 : Int32} {x5 : Int32} {r : Int32} {σ1 : zt_St} (hf : f_X1_tell σ x1 x2 x3 x4 x5 = some (r, σ1)) : zt_Mi l G yX1_tell wsX1_tell 0 0 [.ref (zt_ad G 69), .int x1, .int x2, .int x3, .int x4, .int x5] σ r σ1 := by
  refine Met.ofW (cc := cX1_tell) (maxL := 6) (ret := (some .int)) (by decide) rfl ?_
  intro p e s m args below meth c s₁ B hml hv
  obtain ⟨rfl, hBB⟩ := hv
  have hE := zt_B.env hBB; have hK := hE.2.1; have hP := hBB.2.1
  have hx := B.exec; have hb := B.bytes; have hr := B.returns; have hts := atoms_spec (ws := wsX1_tell) B.pre
  have hown : s.vm.findClass RX1 = some m.cls := findClass_of_methodNamed B.named
  have hlocks := B.notSynchronized
  have hS : va_S (zt_A G) s.heap s.heap [] := va_S.rf
  have hl := lv_entry ([.ref (zt_ad G 69), .int x1, .int x2, .int x3, .int x4, .int x5]) (n := 6) (Nat.le_of_ble_eq_true rfl)
  rw [lg_entry_eq]
  generalize (lg_sl ([.ref (zt_ad G 69), .int x1, .int x2, .int x3, .int x4, .int x5]) ++ List.replicate (6 - (lg_sl ([.ref (zt_ad G 69), .int x1, .int x2, .int x3, .int x4, .int x5])).length) Slot.unset).toArray = ls at hl ⊢
  have hl : lv_has ls 6 [(0, .ref (zt_ad G 69)), (1, .int x1), (2, .int x2), (3, .int x3), (4, .int x4), (5, .int x5)] := hl
  show W p l e (zt_R 0 0) s m ([.ref (zt_ad G 69), .int x1, .int x2, .int x3, .int x4, .int x5] : List Value).toArray below meth c s.heap [] 0 0 (MQ below (zt_Ci G r σ1) ([.ref (zt_ad G 69), .int x1, .int x2, .int x3, .int x4, .int x5] : List Value).toArray s 0 0 (zt_A G)) (F0 m 0 ls [])
  have fl9 := hts (.fieldLink RX1 9 "ZoneTree$Changes" "kinds" "[I") (List.mem_cons_of_mem _ (List.mem_append_left _ (List.mem_of_getElem? (i := 1) rfl)))
  have fl15 := hts (.fieldLink RX1 15 "ZoneTree$Changes" "places" "[I") (List.mem_cons_of_mem _ (List.mem_append_left _ (List.mem_of_getElem? (i := 2) rfl)))
  have fl18 := hts (.fieldLink RX1 18 "ZoneTree$Changes" "sorts" "[I") (List.mem_cons_of_mem _ (List.mem_append_left _ (List.mem_of_getElem? (i := 3) rfl)))
  have fl21 := hts (.fieldLink RX1 21 "ZoneTree$Changes" "numbers" "[I") (List.mem_cons_of_mem _ (List.mem_append_left _ (List.mem_of_getElem? (i := 4) rfl)))
  have fl24 := hts (.fieldLink RX1 24 "ZoneTree$Changes" "lives" "[I") (List.mem_cons_of_mem _ (List.mem_append_left _ (List.mem_of_getElem? (i := 5) rfl)))
  have fl36 := hts (.fieldLink RX1 36 "ZoneTree$Changes" "count" "I") (List.mem_cons_of_mem _ (List.mem_append_left _ (List.mem_of_getElem? (i := 0) rfl)))
  have inX1 : ∀ w ∈ wsX10, w ∈ wsX1_tell := fun w h => (List.mem_cons_of_mem _ (List.mem_append_right _ h))
  unfold f_X1_tell at hf
  refine lv_aload_n hx hb dX1_tell_0 rfl (lv_at hl 0 rfl) ?_
  refine va_get (D := zt_D G) (ci := 1) (v := .int (σ 69 5)) (C := RX1) (T := TX1) (N := 7) hx hb hts inX1 hown hK hP 69 (zt_a1 (rfl : zt_kd 69 = 1)) rfl 5 (by decide) fl36 (fun _ h9 => h9) rfl dX1_tell_1 ?_
  refine lv_if_lt (tgt := 81) hx hb dX1_tell_4 (by decide) (fun c1 => ?_) (fun c1 => ?_)
  · have hf := (if_pos c1).symm.trans hf
    refine lv_aload_n hx hb dX1_tell_81 rfl (lv_at hl 0 rfl) ?_
    refine va_get (D := zt_D G) (ci := 1) (v := .int (σ 69 5)) (C := RX1) (T := TX1) (N := 7) hx hb hts inX1 hown hK hP 69 (zt_a1 (rfl : zt_kd 69 = 1)) rfl 5 (by decide) fl36 (fun _ h9 => h9) rfl dX1_tell_82 ?_
    exact W.iret hx hb hr (fun t ht hW => ⟨⟨_, _, rfl, (Prod.mk.inj (Option.some.inj hf)), zt_go hE hP hS zt_id ht hW⟩, hS.F ht⟩) hS.2.2 dX1_tell_85
  · have hf := (if_neg c1).symm.trans hf
    refine lv_aload_n hx hb dX1_tell_7 rfl (lv_at hl 0 rfl) ?_
    refine va_get (D := zt_D G) (ci := 1) (v := .int (σ 69 5)) (C := RX1) (T := TX1) (N := 7) hx hb hts inX1 hown hK hP 69 (zt_a1 (rfl : zt_kd 69 = 1)) rfl 5 (by decide) fl36 (fun _ h9 => h9) rfl dX1_tell_8 ?_
    refine lv_aload_n hx hb dX1_tell_11 rfl (lv_at hl 0 rfl) ?_
    refine va_get (D := zt_D G) (ci := 1) (v := .ref (zt_ad G 70)) (C := RX1) (T := TX1) (N := 7) hx hb hts inX1 hown hK hP 69 (zt_a1 (rfl : zt_kd 69 = 1)) rfl 0 (by decide) fl9 (fun _ h9 => h9) rfl dX1_tell_12 ?_
    refine va_alen hx hb hK hP 70 0 zt_a_70 rfl (v := 10) (show Int32.ofNat 10 = 10 by decide +kernel) dX1_tell_15 ?_
    refine lv_icmp_ge (tgt := 81) hx hb dX1_tell_16 (by decide) (fun c2 => ?_) (fun c2 => ?_)
    · have hf := (if_pos c2).symm.trans hf
      refine lv_aload_n hx hb dX1_tell_81 rfl (lv_at hl 0 rfl) ?_
      refine va_get (D := zt_D G) (ci := 1) (v := .int (σ 69 5)) (C := RX1) (T := TX1) (N := 7) hx hb hts inX1 hown hK hP 69 (zt_a1 (rfl : zt_kd 69 = 1)) rfl 5 (by decide) fl36 (fun _ h9 => h9) rfl dX1_tell_82 ?_
      exact W.iret hx hb hr (fun t ht hW => ⟨⟨_, _, rfl, (Prod.mk.inj (Option.some.inj hf)), zt_go hE hP hS zt_id ht hW⟩, hS.F ht⟩) hS.2.2 dX1_tell_85
    · have hf := (if_neg c2).symm.trans hf
      refine lv_aload_n hx hb dX1_tell_19 rfl (lv_at hl 0 rfl) ?_
      refine va_get (D := zt_D G) (ci := 1) (v := .ref (zt_ad G 70)) (C := RX1) (T := TX1) (N := 7) hx hb hts inX1 hown hK hP 69 (zt_a1 (rfl : zt_kd 69 = 1)) rfl 0 (by decide) fl9 (fun _ h9 => h9) rfl dX1_tell_20 ?_
      refine lv_aload_n hx hb dX1_tell_23 rfl (lv_at hl 0 rfl) ?_
      refine va_get (D := zt_D G) (ci := 1) (v := .int (σ 69 5)) (C := RX1) (T := TX1) (N := 7) hx hb hts inX1 hown hK hP 69 (zt_a1 (rfl : zt_kd 69 = 1)) rfl 5 (by decide) fl36 (fun _ h9 => h9) rfl dX1_tell_24 ?_
      refine lv_iload_n hx hb dX1_tell_27 rfl (lv_at hl 1 rfl) ?_
      obtain ⟨g3, hf⟩ := zt_gd_some hf
      obtain ⟨σ4, hσ4, hf⟩ := zt_lt_some hf
      refine va_iast hx hb hK hP (zt_apart hE.1) hS 70 0 zt_a_70 rfl (zt_gI_in g3) dX1_tell_28 (fun H locs hP _ hS => ?_)
      rw [zt_p_70, ← hσ4] at hP
      refine lv_aload_n hx hb dX1_tell_29 rfl (lv_at hl 0 rfl) ?_
      refine va_get (D := zt_D G) (ci := 1) (v := .ref (zt_ad G 71)) (C := RX1) (T := TX1) (N := 7) hx hb hts inX1 hown hK hP 69 (zt_a1 (rfl : zt_kd 69 = 1)) rfl 1 (by decide) fl15 (fun _ h9 => h9) rfl dX1_tell_30 ?_
      refine lv_aload_n hx hb dX1_tell_33 rfl (lv_at hl 0 rfl) ?_
      refine va_get (D := zt_D G) (ci := 1) (v := .int (σ4 69 5)) (C := RX1) (T := TX1) (N := 7) hx hb hts inX1 hown hK hP 69 (zt_a1 (rfl : zt_kd 69 = 1)) rfl 5 (by decide) fl36 (fun _ h9 => h9) rfl dX1_tell_34 ?_
      refine lv_iload_n hx hb dX1_tell_37 rfl (lv_at hl 2 rfl) ?_
      obtain ⟨g5, hf⟩ := zt_gd_some hf
      obtain ⟨σ6, hσ6, hf⟩ := zt_lt_some hf
      refine va_iast hx hb hK hP (zt_apart hE.1) hS 71 0 zt_a_71 rfl (zt_gI_in g5) dX1_tell_38 (fun H locs hP _ hS => ?_)
      rw [zt_p_71, ← hσ6] at hP
      refine lv_aload_n hx hb dX1_tell_39 rfl (lv_at hl 0 rfl) ?_
      refine va_get (D := zt_D G) (ci := 1) (v := .ref (zt_ad G 72)) (C := RX1) (T := TX1) (N := 7) hx hb hts inX1 hown hK hP 69 (zt_a1 (rfl : zt_kd 69 = 1)) rfl 2 (by decide) fl18 (fun _ h9 => h9) rfl dX1_tell_40 ?_
      refine lv_aload_n hx hb dX1_tell_43 rfl (lv_at hl 0 rfl) ?_
      refine va_get (D := zt_D G) (ci := 1) (v := .int (σ6 69 5)) (C := RX1) (T := TX1) (N := 7) hx hb hts inX1 hown hK hP 69 (zt_a1 (rfl : zt_kd 69 = 1)) rfl 5 (by decide) fl36 (fun _ h9 => h9) rfl dX1_tell_44 ?_
      refine lv_iload_n hx hb dX1_tell_47 rfl (lv_at hl 3 rfl) ?_
      obtain ⟨g7, hf⟩ := zt_gd_some hf
      obtain ⟨σ8, hσ8, hf⟩ := zt_lt_some hf
      refine va_iast hx hb hK hP (zt_apart hE.1) hS 72 0 zt_a_72 rfl (zt_gI_in g7) dX1_tell_48 (fun H locs hP _ hS => ?_)
      rw [zt_p_72, ← hσ8] at hP
      refine lv_aload_n hx hb dX1_tell_49 rfl (lv_at hl 0 rfl) ?_
      refine va_get (D := zt_D G) (ci := 1) (v := .ref (zt_ad G 73)) (C := RX1) (T := TX1) (N := 7) hx hb hts inX1 hown hK hP 69 (zt_a1 (rfl : zt_kd 69 = 1)) rfl 3 (by decide) fl21 (fun _ h9 => h9) rfl dX1_tell_50 ?_
      refine lv_aload_n hx hb dX1_tell_53 rfl (lv_at hl 0 rfl) ?_
      refine va_get (D := zt_D G) (ci := 1) (v := .int (σ8 69 5)) (C := RX1) (T := TX1) (N := 7) hx hb hts inX1 hown hK hP 69 (zt_a1 (rfl : zt_kd 69 = 1)) rfl 5 (by decide) fl36 (fun _ h9 => h9) rfl dX1_tell_54 ?_
      refine lv_iload hx hb dX1_tell_57 (lv_at hl 4 rfl) ?_
      obtain ⟨g9, hf⟩ := zt_gd_some hf
      obtain ⟨σ10, hσ10, hf⟩ := zt_lt_some hf
      refine va_iast hx hb hK hP (zt_apart hE.1) hS 73 0 zt_a_73 rfl (zt_gI_in g9) dX1_tell_59 (fun H locs hP _ hS => ?_)
      rw [zt_p_73, ← hσ10] at hP
      refine lv_aload_n hx hb dX1_tell_60 rfl (lv_at hl 0 rfl) ?_
      refine va_get (D := zt_D G) (ci := 1) (v := .ref (zt_ad G 74)) (C := RX1) (T := TX1) (N := 7) hx hb hts inX1 hown hK hP 69 (zt_a1 (rfl : zt_kd 69 = 1)) rfl 4 (by decide) fl24 (fun _ h9 => h9) rfl dX1_tell_61 ?_
      refine lv_aload_n hx hb dX1_tell_64 rfl (lv_at hl 0 rfl) ?_
      refine va_get (D := zt_D G) (ci := 1) (v := .int (σ10 69 5)) (C := RX1) (T := TX1) (N := 7) hx hb hts inX1 hown hK hP 69 (zt_a1 (rfl : zt_kd 69 = 1)) rfl 5 (by decide) fl36 (fun _ h9 => h9) rfl dX1_tell_65 ?_
      refine lv_iload hx hb dX1_tell_68 (lv_at hl 5 rfl) ?_
      obtain ⟨g11, hf⟩ := zt_gd_some hf
      obtain ⟨σ12, hσ12, hf⟩ := zt_lt_some hf
      refine va_iast hx hb hK hP (zt_apart hE.1) hS 74 0 zt_a_74 rfl (zt_gI_in g11) dX1_tell_70 (fun H locs hP _ hS => ?_)
      rw [zt_p_74, ← hσ12] at hP
      refine lv_aload_n hx hb dX1_tell_71 rfl (lv_at hl 0 rfl) ?_
      refine lv_dup hx hb dX1_tell_72 rfl ?_
      refine va_get (D := zt_D G) (ci := 1) (v := .int (σ12 69 5)) (C := RX1) (T := TX1) (N := 7) hx hb hts inX1 hown hK hP 69 (zt_a1 (rfl : zt_kd 69 = 1)) rfl 5 (by decide) fl36 (fun _ h9 => h9) rfl dX1_tell_73 ?_
      refine lv_iconst (v := 1) hx hb dX1_tell_76 (by decide) ?_
      refine lv_iadd hx hb dX1_tell_77 ?_
      obtain ⟨σ13, hσ13, hf⟩ := zt_lt_some hf
      refine va_put (D := zt_D G) (ci := 1) (v := .int ((σ12 69 5) + 1)) (ty := .int) (C := RX1) (T := TX1) (N := 7) hx hb hts inX1 tyX1 tyX1_ok nmX1 hown hK hP (zt_apart hE.1) hS 69 (zt_a1 (rfl : zt_kd 69 = 1)) rfl 5 (by decide) fl36 (fun _ h9 => h9) rfl (tyX1_ok 5 (by decide)) rfl rfl (Nat.le_of_ble_eq_true rfl) dX1_tell_78 (fun H locs hP _ hS => ?_)
      rw [zt_p1_5 (rfl : zt_kd 69 = 1), ← hσ13] at hP
      refine lv_aload_n hx hb dX1_tell_81 rfl (lv_at hl 0 rfl) ?_
      refine va_get (D := zt_D G) (ci := 1) (v := .int (σ13 69 5)) (C := RX1) (T := TX1) (N := 7) hx hb hts inX1 hown hK hP 69 (zt_a1 (rfl : zt_kd 69 = 1)) rfl 5 (by decide) fl36 (fun _ h9 => h9) rfl dX1_tell_82 ?_
      exact W.iret hx hb hr (fun t ht hW => ⟨⟨_, _, rfl, (Prod.mk.inj (Option.some.inj hf)), zt_go hE hP hS zt_id ht hW⟩, hS.F ht⟩) hS.2.2 dX1_tell_85

theorem zh_X1_areMet : yX1_areMet.cls = RX1 ∧ yX1_areMet.cls ≠ "java/lang/invoke/MethodHandle" ∧ yX1_areMet.cls ≠ "java/lang/invoke/VarHandle" ∧ (parseMethodDescriptor yX1_areMet.desc).map (fun d => d.parameters.length) = some 1 := by decide +kernel
set_option maxHeartbeats 4000000 in
set_option maxRecDepth 100000 in
theorem m_X1_areMet (l : Launch) (G : zt_G) {σ : zt_St} {k1 : Nat} (hk1 : zt_kd k1 = 3) {r : Int32} (hf : f_X1_areMet σ k1 = some r) : zt_Mi l G yX1_areMet wsX1_areMet 1 23 [.ref (zt_ad G 69), .ref (zt_ad G k1)] σ r σ := by
  refine Met.ofW (cc := cX1_areMet) (maxL := 4) (ret := (some .boolean)) (by decide) rfl ?_
  intro p e s m args below meth c s₁ B hml hv
  obtain ⟨rfl, hBB⟩ := hv
  have hE := zt_B.env hBB; have hK := hE.2.1; have hP := hBB.2.1
  have hx := B.exec; have hb := B.bytes; have hr := B.returns; have hts := atoms_spec (ws := wsX1_areMet) B.pre
  have hown : s.vm.findClass RX1 = some m.cls := findClass_of_methodNamed B.named
  have hlocks := B.notSynchronized
  have hS : va_S (zt_A G) s.heap s.heap [] := va_S.rf
  have hl := lv_entry ([.ref (zt_ad G 69), .ref (zt_ad G k1)]) (n := 4) (Nat.le_of_ble_eq_true rfl)
  rw [lg_entry_eq]
  generalize (lg_sl ([.ref (zt_ad G 69), .ref (zt_ad G k1)]) ++ List.replicate (4 - (lg_sl ([.ref (zt_ad G 69), .ref (zt_ad G k1)])).length) Slot.unset).toArray = ls at hl ⊢
  have hl : lv_has ls 4 [(0, .ref (zt_ad G 69)), (1, .ref (zt_ad G k1))] := hl
  show W p l e (zt_R 1 23) s m ([.ref (zt_ad G 69), .ref (zt_ad G k1)] : List Value).toArray below meth c s.heap [] 0 0 (MQ below (zt_Ci G r σ) ([.ref (zt_ad G 69), .ref (zt_ad G k1)] : List Value).toArray s 0 0 (zt_A G)) (F0 m 0 ls [])
  have fl9 := hts (.fieldLink RX1 9 "ZoneTree$Changes" "kinds" "[I") (List.mem_cons_of_mem _ (List.mem_append_left _ (List.mem_append_left _ (List.mem_of_getElem? (i := 1) rfl))))
  have fl15 := hts (.fieldLink RX1 15 "ZoneTree$Changes" "places" "[I") (List.mem_cons_of_mem _ (List.mem_append_left _ (List.mem_append_left _ (List.mem_of_getElem? (i := 2) rfl))))
  have fl18 := hts (.fieldLink RX1 18 "ZoneTree$Changes" "sorts" "[I") (List.mem_cons_of_mem _ (List.mem_append_left _ (List.mem_append_left _ (List.mem_of_getElem? (i := 3) rfl))))
  have fl36 := hts (.fieldLink RX1 36 "ZoneTree$Changes" "count" "I") (List.mem_cons_of_mem _ (List.mem_append_left _ (List.mem_append_left _ (List.mem_of_getElem? (i := 0) rfl))))
  have inX1 : ∀ w ∈ wsX10, w ∈ wsX1_areMet := fun w h => (List.mem_cons_of_mem _ (List.mem_append_left _ (List.mem_append_right _ h)))
  have B74 : ∀ (rc2 : Int32 → Option (Int32)) (hrc2 : ∀ (u2 : Int32) (H : Heap) (locs : List Loc) (ls : Array Slot), rc2 u2 = some r → va_P (zt_D G) vwCl (zt_ww G σ) H → va_S (zt_A G) s.heap H locs → lv_has ls 4 [(0, .ref (zt_ad G 69)), (1, .ref (zt_ad G k1)), (2, .int u2)] → W p l e (zt_R 1 23) s m ([.ref (zt_ad G 69), .ref (zt_ad G k1)] : List Value).toArray below meth c H locs 0 0 (MQ below (zt_Ci G r σ) ([.ref (zt_ad G 69), .ref (zt_ad G k1)] : List Value).toArray s 0 0 (zt_A G)) (F0 m 2 ls [])), ∀ (u2 : Int32) (H : Heap) (locs : List Loc) (ls : Array Slot), f_X1_areMet_74 σ k1 rc2 u2 = some r → va_P (zt_D G) vwCl (zt_ww G σ) H → va_S (zt_A G) s.heap H locs → lv_has ls 4 [(0, .ref (zt_ad G 69)), (1, .ref (zt_ad G k1)), (2, .int u2)] → W p l e (zt_R 1 23) s m ([.ref (zt_ad G 69), .ref (zt_ad G k1)] : List Value).toArray below meth c H locs 0 0 (MQ below (zt_Ci G r σ) ([.ref (zt_ad G 69), .ref (zt_ad G k1)] : List Value).toArray s 0 0 (zt_A G)) (F0 m 74 ls []) := by
    intro rc2 hrc2 u2 H locs ls hf hP hS hl
    unfold f_X1_areMet_74 at hf
    refine lv_iinc (v := (u2 + 1)) (lv' := [(2, .int (u2 + 1)), (0, .ref (zt_ad G 69)), (1, .ref (zt_ad G k1))]) hx hb dX1_areMet_74 hl (k := 2) rfl rfl (by decide) rfl (fun ls hl => ?_)
    refine lv_goto (tgt := 2) hx hb dX1_areMet_77 (by decide) ?_
    exact hrc2 (u2 + 1) _ _ _ hf hP hS (lv_sub hl [1, 2, 0] rfl)
  have B58 : ∀ (rc2 : Int32 → Option (Int32)) (hrc2 : ∀ (u2 : Int32) (H : Heap) (locs : List Loc) (ls : Array Slot), rc2 u2 = some r → va_P (zt_D G) vwCl (zt_ww G σ) H → va_S (zt_A G) s.heap H locs → lv_has ls 4 [(0, .ref (zt_ad G 69)), (1, .ref (zt_ad G k1)), (2, .int u2)] → W p l e (zt_R 1 23) s m ([.ref (zt_ad G 69), .ref (zt_ad G k1)] : List Value).toArray below meth c H locs 0 0 (MQ below (zt_Ci G r σ) ([.ref (zt_ad G 69), .ref (zt_ad G k1)] : List Value).toArray s 0 0 (zt_A G)) (F0 m 2 ls [])), ∀ (u2 : Int32) (u3 : Int32) (H : Heap) (locs : List Loc) (ls : Array Slot), f_X1_areMet_58 σ k1 rc2 u2 u3 = some r → va_P (zt_D G) vwCl (zt_ww G σ) H → va_S (zt_A G) s.heap H locs → lv_has ls 4 [(0, .ref (zt_ad G 69)), (1, .ref (zt_ad G k1)), (2, .int u2), (3, .int u3)] → W p l e (zt_R 1 23) s m ([.ref (zt_ad G 69), .ref (zt_ad G k1)] : List Value).toArray below meth c H locs 0 0 (MQ below (zt_Ci G r σ) ([.ref (zt_ad G 69), .ref (zt_ad G k1)] : List Value).toArray s 0 0 (zt_A G)) (F0 m 58 ls []) := by
    intro rc2 hrc2 u2 u3 H locs ls hf hP hS hl
    unfold f_X1_areMet_58 at hf
    refine lv_aload_n hx hb dX1_areMet_58 rfl (lv_at hl 0 rfl) ?_
    refine va_get (D := zt_D G) (ci := 1) (v := .ref (zt_ad G 70)) (C := RX1) (T := TX1) (N := 7) hx hb hts inX1 hown hK hP 69 (zt_a1 (rfl : zt_kd 69 = 1)) rfl 0 (by decide) fl9 (fun _ h9 => h9) rfl dX1_areMet_59 ?_
    refine lv_iload_n hx hb dX1_areMet_62 rfl (lv_at hl 2 rfl) ?_
    obtain ⟨g11, hf⟩ := zt_gd_some hf
    refine va_iald hx hb hK hP 70 0 zt_a_70 rfl (zt_gI_in g11) dX1_areMet_63 ?_
    refine lv_iconst (v := 1) hx hb dX1_areMet_64 (by decide) ?_
    refine lv_icmp_ne (tgt := 74) hx hb dX1_areMet_65 (by decide) (fun c12 => ?_) (fun c12 => ?_)
    · have hf := (if_neg c12).symm.trans hf
      exact B74 rc2 hrc2 u2 _ _ _ hf hP hS (lv_sub hl [0, 1, 2] rfl)
    · have hf := (if_pos c12).symm.trans hf
      refine lv_iload_n hx hb dX1_areMet_68 rfl (lv_at hl 3 rfl) ?_
      refine lv_if_eq (tgt := 74) hx hb dX1_areMet_69 (by decide) (fun c13 => ?_) (fun c13 => ?_)
      · have hf := (if_pos c13).symm.trans hf
        exact B74 rc2 hrc2 u2 _ _ _ hf hP hS (lv_sub hl [0, 1, 2] rfl)
      · have hf := (if_neg c13).symm.trans hf
        refine lv_iconst (v := 0) hx hb dX1_areMet_72 (by decide) ?_
        exact W.zret hx hb hr (zt_bn (by decide)).1 (fun t ht hW => ⟨⟨_, _, rfl, ⟨Option.some.inj hf, rfl⟩, zt_go hE hP hS zt_id ht hW⟩, hS.F ht⟩) hS.2.2 dX1_areMet_73
  have B44 : ∀ (rc2 : Int32 → Option (Int32)) (hrc2 : ∀ (u2 : Int32) (H : Heap) (locs : List Loc) (ls : Array Slot), rc2 u2 = some r → va_P (zt_D G) vwCl (zt_ww G σ) H → va_S (zt_A G) s.heap H locs → lv_has ls 4 [(0, .ref (zt_ad G 69)), (1, .ref (zt_ad G k1)), (2, .int u2)] → W p l e (zt_R 1 23) s m ([.ref (zt_ad G 69), .ref (zt_ad G k1)] : List Value).toArray below meth c H locs 0 0 (MQ below (zt_Ci G r σ) ([.ref (zt_ad G 69), .ref (zt_ad G k1)] : List Value).toArray s 0 0 (zt_A G)) (F0 m 2 ls [])), ∀ (y0 : Int32) (u2 : Int32) (H : Heap) (locs : List Loc) (ls : Array Slot), f_X1_areMet_44 σ k1 rc2 y0 u2 = some r → va_P (zt_D G) vwCl (zt_ww G σ) H → va_S (zt_A G) s.heap H locs → lv_has ls 4 [(0, .ref (zt_ad G 69)), (1, .ref (zt_ad G k1)), (2, .int u2)] → W p l e (zt_R 1 23) s m ([.ref (zt_ad G 69), .ref (zt_ad G k1)] : List Value).toArray below meth c H locs 0 0 (MQ below (zt_Ci G r σ) ([.ref (zt_ad G 69), .ref (zt_ad G k1)] : List Value).toArray s 0 0 (zt_A G)) (F0 m 44 ls [.int y0]) := by
    intro rc2 hrc2 y0 u2 H locs ls hf hP hS hl
    unfold f_X1_areMet_44 at hf
    refine lv_istore_n (lv' := [(3, .int y0), (0, .ref (zt_ad G 69)), (1, .ref (zt_ad G k1)), (2, .int u2)]) hx hb dX1_areMet_44 rfl hl (by decide) rfl (fun ls hl => ?_)
    refine lv_aload_n hx hb dX1_areMet_45 rfl (lv_at hl 1 rfl) ?_
    refine va_get (D := zt_D G) (ci := 1) (v := .ref (zt_ad G 70)) (C := RX1) (T := TX1) (N := 7) hx hb hts inX1 hown hK hP 69 (zt_a1 (rfl : zt_kd 69 = 1)) rfl 0 (by decide) fl9 (fun _ h9 => h9) rfl dX1_areMet_46 ?_
    refine lv_iload_n hx hb dX1_areMet_49 rfl (lv_at hl 3 rfl) ?_
    obtain ⟨g8, hf⟩ := zt_gd_some hf
    refine va_iald hx hb hK hP 70 0 zt_a_70 rfl (zt_gI_in g8) dX1_areMet_50 ?_
    refine lv_if_ne (tgt := 58) hx hb dX1_areMet_51 (by decide) (fun c9 => ?_) (fun c9 => ?_)
    · have hf := (if_neg c9).symm.trans hf
      exact B58 rc2 hrc2 u2 y0 _ _ _ hf hP hS (lv_sub hl [1, 2, 3, 0] rfl)
    · have hf := (if_pos c9).symm.trans hf
      refine lv_iload_n hx hb dX1_areMet_54 rfl (lv_at hl 0 rfl) ?_
      refine lv_if_eq (tgt := 72) hx hb dX1_areMet_55 (by decide) (fun c10 => ?_) (fun c10 => ?_)
      · have hf := (if_pos c10).symm.trans hf
        refine lv_iconst (v := 0) hx hb dX1_areMet_72 (by decide) ?_
        exact W.zret hx hb hr (zt_bn (by decide)).1 (fun t ht hW => ⟨⟨_, _, rfl, ⟨Option.some.inj hf, rfl⟩, zt_go hE hP hS zt_id ht hW⟩, hS.F ht⟩) hS.2.2 dX1_areMet_73
      · have hf := (if_neg c10).symm.trans hf
        exact B58 rc2 hrc2 u2 y0 _ _ _ hf hP hS (lv_sub hl [1, 2, 3, 0] rfl)
  have B2 : ∀ (n : Nat), ∀ (u2 : Int32) (H : Heap) (locs : List Loc) (ls : Array Slot), f_X1_areMet_2 σ k1 n u2 = some r → va_P (zt_D G) vwCl (zt_ww G σ) H → va_S (zt_A G) s.heap H locs → lv_has ls 4 [(0, .ref (zt_ad G 69)), (1, .ref (zt_ad G k1)), (2, .int u2)] → W p l e (zt_R 1 23) s m ([.ref (zt_ad G 69), .ref (zt_ad G k1)] : List Value).toArray below meth c H locs 0 0 (MQ below (zt_Ci G r σ) ([.ref (zt_ad G 69), .ref (zt_ad G k1)] : List Value).toArray s 0 0 (zt_A G)) (F0 m 2 ls []) := by
    intro n
    induction n with
    | zero => intro u2 H locs ls hf; exact nomatch hf
    | succ n hrc2 =>
      intro u2 H locs ls hf hP hS hl
      generalize hrcg : f_X1_areMet_2 σ k1 n = rc2 at hrc2
      have hf : f_X1_areMet_2b σ k1 rc2 u2 = some r := by rw [← hrcg]; exact hf
      unfold f_X1_areMet_2b at hf
      refine lv_iload_n hx hb dX1_areMet_2 rfl (lv_at hl 2 rfl) ?_
      refine lv_aload_n hx hb dX1_areMet_3 rfl (lv_at hl 0 rfl) ?_
      refine va_get (D := zt_D G) (ci := 1) (v := .int (σ 69 5)) (C := RX1) (T := TX1) (N := 7) hx hb hts inX1 hown hK hP 69 (zt_a1 (rfl : zt_kd 69 = 1)) rfl 5 (by decide) fl36 (fun _ h9 => h9) rfl dX1_areMet_4 ?_
      refine lv_icmp_ge (tgt := 80) hx hb dX1_areMet_7 (by decide) (fun c1 => ?_) (fun c1 => ?_)
      · have hf := (if_pos c1).symm.trans hf
        refine lv_iconst (v := 1) hx hb dX1_areMet_80 (by decide) ?_
        exact W.zret hx hb hr (zt_bn (by decide)).1 (fun t ht hW => ⟨⟨_, _, rfl, ⟨Option.some.inj hf, rfl⟩, zt_go hE hP hS zt_id ht hW⟩, hS.F ht⟩) hS.2.2 dX1_areMet_81
      · have hf := (if_neg c1).symm.trans hf
        refine lv_iload_n hx hb dX1_areMet_10 rfl (lv_at hl 2 rfl) ?_
        refine lv_aload_n hx hb dX1_areMet_11 rfl (lv_at hl 0 rfl) ?_
        refine va_get (D := zt_D G) (ci := 1) (v := .ref (zt_ad G 70)) (C := RX1) (T := TX1) (N := 7) hx hb hts inX1 hown hK hP 69 (zt_a1 (rfl : zt_kd 69 = 1)) rfl 0 (by decide) fl9 (fun _ h9 => h9) rfl dX1_areMet_12 ?_
        refine va_alen hx hb hK hP 70 0 zt_a_70 rfl (v := 10) (show Int32.ofNat 10 = 10 by decide +kernel) dX1_areMet_15 ?_
        refine lv_icmp_ge (tgt := 80) hx hb dX1_areMet_16 (by decide) (fun c2 => ?_) (fun c2 => ?_)
        · have hf := (if_pos c2).symm.trans hf
          refine lv_iconst (v := 1) hx hb dX1_areMet_80 (by decide) ?_
          exact W.zret hx hb hr (zt_bn (by decide)).1 (fun t ht hW => ⟨⟨_, _, rfl, ⟨Option.some.inj hf, rfl⟩, zt_go hE hP hS zt_id ht hW⟩, hS.F ht⟩) hS.2.2 dX1_areMet_81
        · have hf := (if_neg c2).symm.trans hf
          refine lv_aload_n hx hb dX1_areMet_19 rfl (lv_at hl 1 rfl) ?_
          refine lv_aload_n hx hb dX1_areMet_20 rfl (lv_at hl 0 rfl) ?_
          refine va_get (D := zt_D G) (ci := 1) (v := .ref (zt_ad G 71)) (C := RX1) (T := TX1) (N := 7) hx hb hts inX1 hown hK hP 69 (zt_a1 (rfl : zt_kd 69 = 1)) rfl 1 (by decide) fl15 (fun _ h9 => h9) rfl dX1_areMet_21 ?_
          refine lv_iload_n hx hb dX1_areMet_24 rfl (lv_at hl 2 rfl) ?_
          obtain ⟨g3, hf⟩ := zt_gd_some hf
          refine va_iald hx hb hK hP 71 0 zt_a_71 rfl (zt_gI_in g3) dX1_areMet_25 ?_
          refine lv_aload_n hx hb dX1_areMet_26 rfl (lv_at hl 0 rfl) ?_
          refine va_get (D := zt_D G) (ci := 1) (v := .ref (zt_ad G 72)) (C := RX1) (T := TX1) (N := 7) hx hb hts inX1 hown hK hP 69 (zt_a1 (rfl : zt_kd 69 = 1)) rfl 2 (by decide) fl18 (fun _ h9 => h9) rfl dX1_areMet_27 ?_
          refine lv_iload_n hx hb dX1_areMet_30 rfl (lv_at hl 2 rfl) ?_
          obtain ⟨g4, hf⟩ := zt_gd_some hf
          refine va_iald hx hb hK hP 72 0 zt_a_72 rfl (zt_gI_in g4) dX1_areMet_31 ?_
          obtain ⟨v5, hvv5, hf⟩ := zt_bd_some hf
          refine va_calli (va_runV (As := [.int (σ 71 u2.toNatClampNeg), .int (σ 72 u2.toNatClampNeg)]) (rest := []) ⟨hx, hb, hml, hown, hts⟩ (m_X4_rowOf l G hk1 (σ := σ) hvv5) (cwV 2 hts gX1_areMet_X4_rowOf rfl rfl rfl zh_X4_rowOf ⟨Nat.le_of_ble_eq_true rfl, Nat.le_of_ble_eq_true rfl⟩) ⟨zt_blind, va_recv hK hP (ci := 3) (q0 := k1) rfl (zt_a3 hk1), fun U hU hW => ⟨rfl, zt_go hE hP hS zt_id hU hW⟩⟩ rfl rfl hl.1 rfl (lv_room (Nat.le_of_ble_eq_true rfl)) dX1_areMet_32 ⟨Nat.zero_le _, Nat.zero_le _⟩) hS (fun _ _ h => h) (fun _ h => h) (fun r u t H locs ht hvm hw hB _ _ hS => ?_)
          rw [hw.1]; have hB : zt_B G u t := hB; rw [hw.2] at hB; have hP := zt_B.P hB ht
          refine lv_iconst (v := (-1)) hx hb dX1_areMet_35 (by decide) ?_
          refine lv_icmp_eq (tgt := 43) hx hb dX1_areMet_36 (by decide) (fun c7 => ?_) (fun c7 => ?_)
          · have hf := (if_pos c7).symm.trans hf
            refine lv_iconst (v := 0) hx hb dX1_areMet_43 (by decide) ?_
            exact B44 rc2 hrc2 0 u2 _ _ _ hf hP hS (lv_sub hl [0, 1, 2] rfl)
          · have hf := (if_neg c7).symm.trans hf
            refine lv_iconst (v := 1) hx hb dX1_areMet_39 (by decide) ?_
            refine lv_goto (tgt := 44) hx hb dX1_areMet_40 (by decide) ?_
            exact B44 rc2 hrc2 1 u2 _ _ _ hf hP hS (lv_sub hl [0, 1, 2] rfl)
  unfold f_X1_areMet at hf
  refine lv_iconst (v := 0) hx hb dX1_areMet_0 (by decide) ?_
  refine lv_istore_n (lv' := [(2, .int 0), (0, .ref (zt_ad G 69)), (1, .ref (zt_ad G k1))]) hx hb dX1_areMet_1 rfl hl (by decide) rfl (fun ls hl => ?_)
  exact B2 zt_FU 0 _ _ _ hf hP hS (lv_sub hl [1, 2, 0] rfl)

theorem zh_X1_areMade : yX1_areMade.cls = RX1 ∧ yX1_areMade.cls ≠ "java/lang/invoke/MethodHandle" ∧ yX1_areMade.cls ≠ "java/lang/invoke/VarHandle" ∧ (parseMethodDescriptor yX1_areMade.desc).map (fun d => d.parameters.length) = some 0 := by decide +kernel
set_option maxHeartbeats 4000000 in
set_option maxRecDepth 100000 in
theorem m_X1_areMade (l : Launch) (G : zt_G) {σ : zt_St} {r : Int32} {σ1 : zt_St} (hf : f_X1_areMade σ = some (r, σ1)) : zt_Mi l G yX1_areMade wsX1_areMade 2 48 [.ref (zt_ad G 69)] σ r σ1 := by
  refine Met.ofW (cc := cX1_areMade) (maxL := 2) (ret := (some .boolean)) (by decide) rfl ?_
  intro p e s m args below meth c s₁ B hml hv
  obtain ⟨rfl, hBB⟩ := hv
  have hE := zt_B.env hBB; have hK := hE.2.1; have hP := hBB.2.1
  have hx := B.exec; have hb := B.bytes; have hr := B.returns; have hts := atoms_spec (ws := wsX1_areMade) B.pre
  have hown : s.vm.findClass RX1 = some m.cls := findClass_of_methodNamed B.named
  have hlocks := B.notSynchronized
  have hS : va_S (zt_A G) s.heap s.heap [] := va_S.rf
  have hl := lv_entry ([.ref (zt_ad G 69)]) (n := 2) (Nat.le_of_ble_eq_true rfl)
  rw [lg_entry_eq]
  generalize (lg_sl ([.ref (zt_ad G 69)]) ++ List.replicate (2 - (lg_sl ([.ref (zt_ad G 69)])).length) Slot.unset).toArray = ls at hl ⊢
  have hl : lv_has ls 2 [(0, .ref (zt_ad G 69))] := hl
  show W p l e (zt_R 2 48) s m ([.ref (zt_ad G 69)] : List Value).toArray below meth c s.heap [] 0 0 (MQ below (zt_Ci G r σ1) ([.ref (zt_ad G 69)] : List Value).toArray s 0 0 (zt_A G)) (F0 m 0 ls [])
  have fl9 := hts (.fieldLink RX1 9 "ZoneTree$Changes" "kinds" "[I") (List.mem_cons_of_mem _ (List.mem_append_left _ (List.mem_append_left _ (List.mem_append_left _ (List.mem_of_getElem? (i := 1) rfl)))))
  have fl15 := hts (.fieldLink RX1 15 "ZoneTree$Changes" "places" "[I") (List.mem_cons_of_mem _ (List.mem_append_left _ (List.mem_append_left _ (List.mem_append_left _ (List.mem_of_getElem? (i := 3) rfl)))))
  have fl18 := hts (.fieldLink RX1 18 "ZoneTree$Changes" "sorts" "[I") (List.mem_cons_of_mem _ (List.mem_append_left _ (List.mem_append_left _ (List.mem_append_left _ (List.mem_of_getElem? (i := 4) rfl)))))
  have fl21 := hts (.fieldLink RX1 21 "ZoneTree$Changes" "numbers" "[I") (List.mem_cons_of_mem _ (List.mem_append_left _ (List.mem_append_left _ (List.mem_append_left _ (List.mem_of_getElem? (i := 5) rfl)))))
  have fl24 := hts (.fieldLink RX1 24 "ZoneTree$Changes" "lives" "[I") (List.mem_cons_of_mem _ (List.mem_append_left _ (List.mem_append_left _ (List.mem_append_left _ (List.mem_of_getElem? (i := 6) rfl)))))
  have fl32 := hts (.fieldLink RX1 32 "ZoneTree$Changes" "trial" "LZoneTree$Records;") (List.mem_cons_of_mem _ (List.mem_append_left _ (List.mem_append_left _ (List.mem_append_left _ (List.mem_of_getElem? (i := 2) rfl)))))
  have fl36 := hts (.fieldLink RX1 36 "ZoneTree$Changes" "count" "I") (List.mem_cons_of_mem _ (List.mem_append_left _ (List.mem_append_left _ (List.mem_append_left _ (List.mem_of_getElem? (i := 0) rfl)))))
  have inX1 : ∀ w ∈ wsX10, w ∈ wsX1_areMade := fun w h => (List.mem_cons_of_mem _ (List.mem_append_left _ (List.mem_append_right _ h)))
  have B94 : ∀ (rc2 : zt_St → Int32 → Option (Int32 × zt_St)) (hrc2 : ∀ (σ : zt_St) (u1 : Int32) (H : Heap) (locs : List Loc) (ls : Array Slot), rc2 σ u1 = some (r, σ1) → va_P (zt_D G) vwCl (zt_ww G σ) H → va_S (zt_A G) s.heap H locs → lv_has ls 2 [(0, .ref (zt_ad G 69)), (1, .int u1)] → W p l e (zt_R 2 48) s m ([.ref (zt_ad G 69)] : List Value).toArray below meth c H locs 0 0 (MQ below (zt_Ci G r σ1) ([.ref (zt_ad G 69)] : List Value).toArray s 0 0 (zt_A G)) (F0 m 2 ls [])), ∀ (σ : zt_St) (u1 : Int32) (H : Heap) (locs : List Loc) (ls : Array Slot), f_X1_areMade_94 rc2 σ u1 = some (r, σ1) → va_P (zt_D G) vwCl (zt_ww G σ) H → va_S (zt_A G) s.heap H locs → lv_has ls 2 [(0, .ref (zt_ad G 69)), (1, .int u1)] → W p l e (zt_R 2 48) s m ([.ref (zt_ad G 69)] : List Value).toArray below meth c H locs 0 0 (MQ below (zt_Ci G r σ1) ([.ref (zt_ad G 69)] : List Value).toArray s 0 0 (zt_A G)) (F0 m 94 ls []) := by
    intro rc2 hrc2 σ u1 H locs ls hf hP hS hl
    unfold f_X1_areMade_94 at hf
    refine lv_iinc (v := (u1 + 1)) (lv' := [(1, .int (u1 + 1)), (0, .ref (zt_ad G 69))]) hx hb dX1_areMade_94 hl (k := 1) rfl rfl (by decide) rfl (fun ls hl => ?_)
    refine lv_goto (tgt := 2) hx hb dX1_areMade_97 (by decide) ?_
    exact hrc2 σ (u1 + 1) _ _ _ hf hP hS (lv_sub hl [1, 0] rfl)
  have B60 : ∀ (rc2 : zt_St → Int32 → Option (Int32 × zt_St)) (hrc2 : ∀ (σ : zt_St) (u1 : Int32) (H : Heap) (locs : List Loc) (ls : Array Slot), rc2 σ u1 = some (r, σ1) → va_P (zt_D G) vwCl (zt_ww G σ) H → va_S (zt_A G) s.heap H locs → lv_has ls 2 [(0, .ref (zt_ad G 69)), (1, .int u1)] → W p l e (zt_R 2 48) s m ([.ref (zt_ad G 69)] : List Value).toArray below meth c H locs 0 0 (MQ below (zt_Ci G r σ1) ([.ref (zt_ad G 69)] : List Value).toArray s 0 0 (zt_A G)) (F0 m 2 ls [])), ∀ (σ : zt_St) (u1 : Int32) (H : Heap) (locs : List Loc) (ls : Array Slot), f_X1_areMade_60 rc2 σ u1 = some (r, σ1) → va_P (zt_D G) vwCl (zt_ww G σ) H → va_S (zt_A G) s.heap H locs → lv_has ls 2 [(0, .ref (zt_ad G 69)), (1, .int u1)] → W p l e (zt_R 2 48) s m ([.ref (zt_ad G 69)] : List Value).toArray below meth c H locs 0 0 (MQ below (zt_Ci G r σ1) ([.ref (zt_ad G 69)] : List Value).toArray s 0 0 (zt_A G)) (F0 m 60 ls []) := by
    intro rc2 hrc2 σ u1 H locs ls hf hP hS hl
    unfold f_X1_areMade_60 at hf
    refine lv_aload_n hx hb dX1_areMade_60 rfl (lv_at hl 0 rfl) ?_
    refine va_get (D := zt_D G) (ci := 1) (v := .ref (zt_ad G 70)) (C := RX1) (T := TX1) (N := 7) hx hb hts inX1 hown hK hP 69 (zt_a1 (rfl : zt_kd 69 = 1)) rfl 0 (by decide) fl9 (fun _ h9 => h9) rfl dX1_areMade_61 ?_
    refine lv_iload_n hx hb dX1_areMade_64 rfl (lv_at hl 1 rfl) ?_
    obtain ⟨g11, hf⟩ := zt_gd_some hf
    refine va_iald hx hb hK hP 70 0 zt_a_70 rfl (zt_gI_in g11) dX1_areMade_65 ?_
    refine lv_iconst (v := 3) hx hb dX1_areMade_66 (by decide) ?_
    refine lv_icmp_ne (tgt := 94) hx hb dX1_areMade_67 (by decide) (fun c12 => ?_) (fun c12 => ?_)
    · have hf := (if_neg c12).symm.trans hf
      exact B94 rc2 hrc2 σ u1 _ _ _ hf hP hS (lv_sub hl [0, 1] rfl)
    · have hf := (if_pos c12).symm.trans hf
      refine lv_aload_n hx hb dX1_areMade_70 rfl (lv_at hl 0 rfl) ?_
      refine va_get (D := zt_D G) (ci := 1) (v := .ref (zt_ad G 75)) (C := RX1) (T := TX1) (N := 7) hx hb hts inX1 hown hK hP 69 (zt_a1 (rfl : zt_kd 69 = 1)) rfl 6 (by decide) fl32 (fun _ h9 => h9) rfl dX1_areMade_71 ?_
      refine lv_aload_n hx hb dX1_areMade_74 rfl (lv_at hl 0 rfl) ?_
      refine va_get (D := zt_D G) (ci := 1) (v := .ref (zt_ad G 71)) (C := RX1) (T := TX1) (N := 7) hx hb hts inX1 hown hK hP 69 (zt_a1 (rfl : zt_kd 69 = 1)) rfl 1 (by decide) fl15 (fun _ h9 => h9) rfl dX1_areMade_75 ?_
      refine lv_iload_n hx hb dX1_areMade_78 rfl (lv_at hl 1 rfl) ?_
      obtain ⟨g13, hf⟩ := zt_gd_some hf
      refine va_iald hx hb hK hP 71 0 zt_a_71 rfl (zt_gI_in g13) dX1_areMade_79 ?_
      refine lv_aload_n hx hb dX1_areMade_80 rfl (lv_at hl 0 rfl) ?_
      refine va_get (D := zt_D G) (ci := 1) (v := .ref (zt_ad G 72)) (C := RX1) (T := TX1) (N := 7) hx hb hts inX1 hown hK hP 69 (zt_a1 (rfl : zt_kd 69 = 1)) rfl 2 (by decide) fl18 (fun _ h9 => h9) rfl dX1_areMade_81 ?_
      refine lv_iload_n hx hb dX1_areMade_84 rfl (lv_at hl 1 rfl) ?_
      obtain ⟨g14, hf⟩ := zt_gd_some hf
      refine va_iald hx hb hK hP 72 0 zt_a_72 rfl (zt_gI_in g14) dX1_areMade_85 ?_
      obtain ⟨⟨v15a, σ16a⟩, hvv15, hf⟩ := zt_bd_some hf
      obtain ⟨v15, hv15, hf⟩ := zt_lt_some hf; obtain ⟨σ16, hσ16, hf⟩ := zt_lt_some hf; rw [show (v15a, σ16a) = (v15, σ16) from by rw [hv15, hσ16]] at hvv15
      refine va_calli (va_runV (As := [.int (σ 71 u1.toNatClampNeg), .int (σ 72 u1.toNatClampNeg)]) (rest := []) ⟨hx, hb, hml, hown, hts⟩ (m_X4_remove l G (rfl : zt_kd 75 = 3) (σ := σ) hvv15) (cwV 2 hts gX1_areMade_X4_remove rfl rfl rfl zh_X4_remove ⟨Nat.le_of_ble_eq_true rfl, Nat.le_of_ble_eq_true rfl⟩) ⟨zt_blind, va_recv hK hP (ci := 3) (q0 := 75) rfl (zt_a3 (rfl : zt_kd 75 = 3)), fun U hU hW => ⟨rfl, zt_go hE hP hS zt_id hU hW⟩⟩ rfl rfl hl.1 rfl (lv_room (Nat.le_of_ble_eq_true rfl)) dX1_areMade_86 ⟨Nat.zero_le _, Nat.zero_le _⟩) hS (fun _ _ h => h) (fun _ h => h) (fun r u t H locs ht hvm hw hB _ _ hS => ?_)
      rw [hw.1]; have hB : zt_B G u t := hB; rw [hw.2] at hB; have hP := zt_B.P hB ht
      refine lv_if_ne (tgt := 94) hx hb dX1_areMade_89 (by decide) (fun c18 => ?_) (fun c18 => ?_)
      · have hf := (if_neg c18).symm.trans hf
        exact B94 rc2 hrc2 σ16 u1 _ _ _ hf hP hS (lv_sub hl [0, 1] rfl)
      · have hf := (if_pos c18).symm.trans hf
        refine lv_iconst (v := 0) hx hb dX1_areMade_92 (by decide) ?_
        exact W.zret hx hb hr (zt_bn (by decide)).1 (fun t ht hW => ⟨⟨_, _, rfl, (Prod.mk.inj (Option.some.inj hf)), zt_go hE hP hS zt_id ht hW⟩, hS.F ht⟩) hS.2.2 dX1_areMade_93
  have B2 : ∀ (n : Nat), ∀ (σ : zt_St) (u1 : Int32) (H : Heap) (locs : List Loc) (ls : Array Slot), f_X1_areMade_2 n σ u1 = some (r, σ1) → va_P (zt_D G) vwCl (zt_ww G σ) H → va_S (zt_A G) s.heap H locs → lv_has ls 2 [(0, .ref (zt_ad G 69)), (1, .int u1)] → W p l e (zt_R 2 48) s m ([.ref (zt_ad G 69)] : List Value).toArray below meth c H locs 0 0 (MQ below (zt_Ci G r σ1) ([.ref (zt_ad G 69)] : List Value).toArray s 0 0 (zt_A G)) (F0 m 2 ls []) := by
    intro n
    induction n with
    | zero => intro σ u1 H locs ls hf; exact nomatch hf
    | succ n hrc2 =>
      intro σ u1 H locs ls hf hP hS hl
      generalize hrcg : f_X1_areMade_2 n = rc2 at hrc2
      have hf : f_X1_areMade_2b rc2 σ u1 = some (r, σ1) := by rw [← hrcg]; exact hf
      unfold f_X1_areMade_2b at hf
      refine lv_iload_n hx hb dX1_areMade_2 rfl (lv_at hl 1 rfl) ?_
      refine lv_aload_n hx hb dX1_areMade_3 rfl (lv_at hl 0 rfl) ?_
      refine va_get (D := zt_D G) (ci := 1) (v := .int (σ 69 5)) (C := RX1) (T := TX1) (N := 7) hx hb hts inX1 hown hK hP 69 (zt_a1 (rfl : zt_kd 69 = 1)) rfl 5 (by decide) fl36 (fun _ h9 => h9) rfl dX1_areMade_4 ?_
      refine lv_icmp_ge (tgt := 100) hx hb dX1_areMade_7 (by decide) (fun c1 => ?_) (fun c1 => ?_)
      · have hf := (if_pos c1).symm.trans hf
        refine lv_iconst (v := 1) hx hb dX1_areMade_100 (by decide) ?_
        exact W.zret hx hb hr (zt_bn (by decide)).1 (fun t ht hW => ⟨⟨_, _, rfl, (Prod.mk.inj (Option.some.inj hf)), zt_go hE hP hS zt_id ht hW⟩, hS.F ht⟩) hS.2.2 dX1_areMade_101
      · have hf := (if_neg c1).symm.trans hf
        refine lv_iload_n hx hb dX1_areMade_10 rfl (lv_at hl 1 rfl) ?_
        refine lv_aload_n hx hb dX1_areMade_11 rfl (lv_at hl 0 rfl) ?_
        refine va_get (D := zt_D G) (ci := 1) (v := .ref (zt_ad G 70)) (C := RX1) (T := TX1) (N := 7) hx hb hts inX1 hown hK hP 69 (zt_a1 (rfl : zt_kd 69 = 1)) rfl 0 (by decide) fl9 (fun _ h9 => h9) rfl dX1_areMade_12 ?_
        refine va_alen hx hb hK hP 70 0 zt_a_70 rfl (v := 10) (show Int32.ofNat 10 = 10 by decide +kernel) dX1_areMade_15 ?_
        refine lv_icmp_ge (tgt := 100) hx hb dX1_areMade_16 (by decide) (fun c2 => ?_) (fun c2 => ?_)
        · have hf := (if_pos c2).symm.trans hf
          refine lv_iconst (v := 1) hx hb dX1_areMade_100 (by decide) ?_
          exact W.zret hx hb hr (zt_bn (by decide)).1 (fun t ht hW => ⟨⟨_, _, rfl, (Prod.mk.inj (Option.some.inj hf)), zt_go hE hP hS zt_id ht hW⟩, hS.F ht⟩) hS.2.2 dX1_areMade_101
        · have hf := (if_neg c2).symm.trans hf
          refine lv_aload_n hx hb dX1_areMade_19 rfl (lv_at hl 0 rfl) ?_
          refine va_get (D := zt_D G) (ci := 1) (v := .ref (zt_ad G 70)) (C := RX1) (T := TX1) (N := 7) hx hb hts inX1 hown hK hP 69 (zt_a1 (rfl : zt_kd 69 = 1)) rfl 0 (by decide) fl9 (fun _ h9 => h9) rfl dX1_areMade_20 ?_
          refine lv_iload_n hx hb dX1_areMade_23 rfl (lv_at hl 1 rfl) ?_
          obtain ⟨g3, hf⟩ := zt_gd_some hf
          refine va_iald hx hb hK hP 70 0 zt_a_70 rfl (zt_gI_in g3) dX1_areMade_24 ?_
          refine lv_iconst (v := 2) hx hb dX1_areMade_25 (by decide) ?_
          refine lv_icmp_ne (tgt := 60) hx hb dX1_areMade_26 (by decide) (fun c4 => ?_) (fun c4 => ?_)
          · have hf := (if_neg c4).symm.trans hf
            exact B60 rc2 hrc2 σ u1 _ _ _ hf hP hS (lv_sub hl [0, 1] rfl)
          · have hf := (if_pos c4).symm.trans hf
            refine lv_aload_n hx hb dX1_areMade_29 rfl (lv_at hl 0 rfl) ?_
            refine va_get (D := zt_D G) (ci := 1) (v := .ref (zt_ad G 75)) (C := RX1) (T := TX1) (N := 7) hx hb hts inX1 hown hK hP 69 (zt_a1 (rfl : zt_kd 69 = 1)) rfl 6 (by decide) fl32 (fun _ h9 => h9) rfl dX1_areMade_30 ?_
            refine lv_aload_n hx hb dX1_areMade_33 rfl (lv_at hl 0 rfl) ?_
            refine va_get (D := zt_D G) (ci := 1) (v := .ref (zt_ad G 71)) (C := RX1) (T := TX1) (N := 7) hx hb hts inX1 hown hK hP 69 (zt_a1 (rfl : zt_kd 69 = 1)) rfl 1 (by decide) fl15 (fun _ h9 => h9) rfl dX1_areMade_34 ?_
            refine lv_iload_n hx hb dX1_areMade_37 rfl (lv_at hl 1 rfl) ?_
            obtain ⟨g5, hf⟩ := zt_gd_some hf
            refine va_iald hx hb hK hP 71 0 zt_a_71 rfl (zt_gI_in g5) dX1_areMade_38 ?_
            refine lv_aload_n hx hb dX1_areMade_39 rfl (lv_at hl 0 rfl) ?_
            refine va_get (D := zt_D G) (ci := 1) (v := .ref (zt_ad G 72)) (C := RX1) (T := TX1) (N := 7) hx hb hts inX1 hown hK hP 69 (zt_a1 (rfl : zt_kd 69 = 1)) rfl 2 (by decide) fl18 (fun _ h9 => h9) rfl dX1_areMade_40 ?_
            refine lv_iload_n hx hb dX1_areMade_43 rfl (lv_at hl 1 rfl) ?_
            obtain ⟨g6, hf⟩ := zt_gd_some hf
            refine va_iald hx hb hK hP 72 0 zt_a_72 rfl (zt_gI_in g6) dX1_areMade_44 ?_
            refine lv_aload_n hx hb dX1_areMade_45 rfl (lv_at hl 0 rfl) ?_
            refine va_get (D := zt_D G) (ci := 1) (v := .ref (zt_ad G 73)) (C := RX1) (T := TX1) (N := 7) hx hb hts inX1 hown hK hP 69 (zt_a1 (rfl : zt_kd 69 = 1)) rfl 3 (by decide) fl21 (fun _ h9 => h9) rfl dX1_areMade_46 ?_
            refine lv_iload_n hx hb dX1_areMade_49 rfl (lv_at hl 1 rfl) ?_
            obtain ⟨g7, hf⟩ := zt_gd_some hf
            refine va_iald hx hb hK hP 73 0 zt_a_73 rfl (zt_gI_in g7) dX1_areMade_50 ?_
            refine lv_aload_n hx hb dX1_areMade_51 rfl (lv_at hl 0 rfl) ?_
            refine va_get (D := zt_D G) (ci := 1) (v := .ref (zt_ad G 74)) (C := RX1) (T := TX1) (N := 7) hx hb hts inX1 hown hK hP 69 (zt_a1 (rfl : zt_kd 69 = 1)) rfl 4 (by decide) fl24 (fun _ h9 => h9) rfl dX1_areMade_52 ?_
            refine lv_iload_n hx hb dX1_areMade_55 rfl (lv_at hl 1 rfl) ?_
            obtain ⟨g8, hf⟩ := zt_gd_some hf
            refine va_iald hx hb hK hP 74 0 zt_a_74 rfl (zt_gI_in g8) dX1_areMade_56 ?_
            obtain ⟨σ10, hvv9, hf⟩ := zt_bd_some hf
            refine va_callv (va_runV (As := [.int (σ 71 u1.toNatClampNeg), .int (σ 72 u1.toNatClampNeg), .int (σ 73 u1.toNatClampNeg), .int (σ 74 u1.toNatClampNeg)]) (rest := []) ⟨hx, hb, hml, hown, hts⟩ (m_X4_set l G (rfl : zt_kd 75 = 3) (σ := σ) hvv9) (cwV 4 hts gX1_areMade_X4_set rfl rfl rfl zh_X4_set ⟨Nat.le_of_ble_eq_true rfl, Nat.le_of_ble_eq_true rfl⟩) ⟨zt_blind, va_recv hK hP (ci := 3) (q0 := 75) rfl (zt_a3 (rfl : zt_kd 75 = 3)), fun U hU hW => ⟨rfl, zt_go hE hP hS zt_id hU hW⟩⟩ rfl rfl hl.1 rfl (lv_room (Nat.le_of_ble_eq_true rfl)) dX1_areMade_57 ⟨Nat.zero_le _, Nat.zero_le _⟩) hS (fun _ _ h => h) (fun _ h => h) (fun u t H locs ht hvm hw hB _ _ hS => ?_)
            have hB : zt_B G u t := hB; rw [hw] at hB; have hP := zt_B.P hB ht
            exact B60 rc2 hrc2 σ10 u1 _ _ _ hf hP hS (lv_sub hl [0, 1] rfl)
  unfold f_X1_areMade at hf
  refine lv_iconst (v := 0) hx hb dX1_areMade_0 (by decide) ?_
  refine lv_istore_n (lv' := [(1, .int 0), (0, .ref (zt_ad G 69))]) hx hb dX1_areMade_1 rfl hl (by decide) rfl (fun ls hl => ?_)
  exact B2 zt_FU σ 0 _ _ _ hf hP hS (lv_sub hl [1, 0] rfl)

theorem zh_X7_at : yX7_at.cls = RX7 ∧ yX7_at.cls ≠ "java/lang/invoke/MethodHandle" ∧ yX7_at.cls ≠ "java/lang/invoke/VarHandle" ∧ (parseMethodDescriptor yX7_at.desc).map (fun d => d.parameters.length) = some 1 := by decide +kernel
set_option maxHeartbeats 4000000 in
set_option maxRecDepth 100000 in
theorem m_X7_at (l : Launch) (G : zt_G) {σ : zt_St} {x1 : Int32} {r : Nat} (hf : f_X7_at σ x1 = some r) : zt_Mr l G yX7_at wsX7_at 0 0 [.ref (zt_ad G 1), .int x1] σ r σ := by
  refine Met.ofW (cc := cX7_at) (maxL := 2) (ret := (some (.object "ZoneTree$Zone"))) (by decide) rfl ?_
  intro p e s m args below meth c s₁ B hml hv
  obtain ⟨rfl, hBB⟩ := hv
  have hE := zt_B.env hBB; have hK := hE.2.1; have hP := hBB.2.1
  have hx := B.exec; have hb := B.bytes; have hr := B.returns; have hts := atoms_spec (ws := wsX7_at) B.pre
  have hown : s.vm.findClass RX7 = some m.cls := findClass_of_methodNamed B.named
  have hlocks := B.notSynchronized
  have hS : va_S (zt_A G) s.heap s.heap [] := va_S.rf
  have hl := lv_entry ([.ref (zt_ad G 1), .int x1]) (n := 2) (Nat.le_of_ble_eq_true rfl)
  rw [lg_entry_eq]
  generalize (lg_sl ([.ref (zt_ad G 1), .int x1]) ++ List.replicate (2 - (lg_sl ([.ref (zt_ad G 1), .int x1])).length) Slot.unset).toArray = ls at hl ⊢
  have hl : lv_has ls 2 [(0, .ref (zt_ad G 1)), (1, .int x1)] := hl
  show W p l e (zt_R 0 0) s m ([.ref (zt_ad G 1), .int x1] : List Value).toArray below meth c s.heap [] 0 0 (MQ below (zt_Cr G r σ) ([.ref (zt_ad G 1), .int x1] : List Value).toArray s 0 0 (zt_A G)) (F0 m 0 ls [])
  have fl11 := hts (.fieldLink RX7 11 "ZoneTree$Zones" "rows" "[LZoneTree$Zone;") (List.mem_cons_of_mem _ (List.mem_append_left _ (List.mem_of_getElem? (i := 1) rfl)))
  have fl22 := hts (.fieldLink RX7 22 "ZoneTree$Zones" "count" "I") (List.mem_cons_of_mem _ (List.mem_append_left _ (List.mem_of_getElem? (i := 0) rfl)))
  have inX7 : ∀ w ∈ wsX70, w ∈ wsX7_at := fun w h => (List.mem_cons_of_mem _ (List.mem_append_right _ h))
  have B30 : ∀ (H : Heap) (locs : List Loc) (ls : Array Slot), f_X7_at_30 σ = some r → va_P (zt_D G) vwCl (zt_ww G σ) H → va_S (zt_A G) s.heap H locs → lv_has ls 2 [(0, .ref (zt_ad G 1))] → W p l e (zt_R 0 0) s m ([.ref (zt_ad G 1), .int x1] : List Value).toArray below meth c H locs 0 0 (MQ below (zt_Cr G r σ) ([.ref (zt_ad G 1), .int x1] : List Value).toArray s 0 0 (zt_A G)) (F0 m 30 ls []) := by
    intro H locs ls hf hP hS hl
    unfold f_X7_at_30 at hf
    refine lv_aload_n hx hb dX7_at_30 rfl (lv_at hl 0 rfl) ?_
    refine va_get (D := zt_D G) (ci := 6) (v := .ref (zt_ad G 2)) (C := RX7) (T := TX7) (N := 2) hx hb hts inX7 hown hK hP 1 (zt_a6 (rfl : zt_kd 1 = 6)) rfl 0 (by decide) fl11 (fun _ h9 => h9) rfl dX7_at_31 ?_
    refine lv_iconst (v := 0) hx hb dX7_at_34 (by decide) ?_
    obtain ⟨g6, hf⟩ := zt_gd_some hf
    obtain ⟨g7, hf⟩ := zt_gd_some hf
    refine va_aldq hx hb hK hP 2 2 (zt_a11 (rfl : zt_kd 2 = 11)) rfl (zt_gI_in g6) dX7_at_35 ?_
    exact W.aret hx hb hr (Or.inl ⟨_, rfl⟩) (Or.inr ⟨_, rfl⟩) (fun t ht hW => ⟨⟨_, _, rfl, rfl, congrArg (zt_ad G) (Option.some.inj hf), zt_go hE hP hS zt_id ht hW⟩, hS.F ht⟩) hS.2.2 dX7_at_36
  unfold f_X7_at at hf
  refine lv_iload_n hx hb dX7_at_0 rfl (lv_at hl 1 rfl) ?_
  refine lv_if_lt (tgt := 30) hx hb dX7_at_1 (by decide) (fun c1 => ?_) (fun c1 => ?_)
  · have hf := (if_pos c1).symm.trans hf
    exact B30 _ _ _ hf hP hS (lv_sub hl [0] rfl)
  · have hf := (if_neg c1).symm.trans hf
    refine lv_iload_n hx hb dX7_at_4 rfl (lv_at hl 1 rfl) ?_
    refine lv_aload_n hx hb dX7_at_5 rfl (lv_at hl 0 rfl) ?_
    refine va_get (D := zt_D G) (ci := 6) (v := .int (σ 1 1)) (C := RX7) (T := TX7) (N := 2) hx hb hts inX7 hown hK hP 1 (zt_a6 (rfl : zt_kd 1 = 6)) rfl 1 (by decide) fl22 (fun _ h9 => h9) rfl dX7_at_6 ?_
    refine lv_icmp_ge (tgt := 30) hx hb dX7_at_9 (by decide) (fun c2 => ?_) (fun c2 => ?_)
    · have hf := (if_pos c2).symm.trans hf
      exact B30 _ _ _ hf hP hS (lv_sub hl [0] rfl)
    · have hf := (if_neg c2).symm.trans hf
      refine lv_iload_n hx hb dX7_at_12 rfl (lv_at hl 1 rfl) ?_
      refine lv_aload_n hx hb dX7_at_13 rfl (lv_at hl 0 rfl) ?_
      refine va_get (D := zt_D G) (ci := 6) (v := .ref (zt_ad G 2)) (C := RX7) (T := TX7) (N := 2) hx hb hts inX7 hown hK hP 1 (zt_a6 (rfl : zt_kd 1 = 6)) rfl 0 (by decide) fl11 (fun _ h9 => h9) rfl dX7_at_14 ?_
      refine va_alen hx hb hK hP 2 2 (zt_a11 (rfl : zt_kd 2 = 11)) rfl (v := 6) (show Int32.ofNat 6 = 6 by decide +kernel) dX7_at_17 ?_
      refine lv_icmp_ge (tgt := 30) hx hb dX7_at_18 (by decide) (fun c3 => ?_) (fun c3 => ?_)
      · have hf := (if_pos c3).symm.trans hf
        exact B30 _ _ _ hf hP hS (lv_sub hl [0] rfl)
      · have hf := (if_neg c3).symm.trans hf
        refine lv_aload_n hx hb dX7_at_21 rfl (lv_at hl 0 rfl) ?_
        refine va_get (D := zt_D G) (ci := 6) (v := .ref (zt_ad G 2)) (C := RX7) (T := TX7) (N := 2) hx hb hts inX7 hown hK hP 1 (zt_a6 (rfl : zt_kd 1 = 6)) rfl 0 (by decide) fl11 (fun _ h9 => h9) rfl dX7_at_22 ?_
        refine lv_iload_n hx hb dX7_at_25 rfl (lv_at hl 1 rfl) ?_
        obtain ⟨g4, hf⟩ := zt_gd_some hf
        obtain ⟨g5, hf⟩ := zt_gd_some hf
        refine va_aldq hx hb hK hP 2 2 (zt_a11 (rfl : zt_kd 2 = 11)) rfl (zt_gI_in g4) dX7_at_26 ?_
        refine lv_goto (tgt := 36) hx hb dX7_at_27 (by decide) ?_
        exact W.aret hx hb hr (Or.inl ⟨_, rfl⟩) (Or.inr ⟨_, rfl⟩) (fun t ht hW => ⟨⟨_, _, rfl, rfl, congrArg (zt_ad G) (Option.some.inj hf), zt_go hE hP hS zt_id ht hW⟩, hS.F ht⟩) hS.2.2 dX7_at_36

theorem zh_X7_isAt : yX7_isAt.cls = RX7 ∧ yX7_isAt.cls ≠ "java/lang/invoke/MethodHandle" ∧ yX7_isAt.cls ≠ "java/lang/invoke/VarHandle" ∧ (parseMethodDescriptor yX7_isAt.desc).map (fun d => d.parameters.length) = some 2 := by decide +kernel
set_option maxHeartbeats 4000000 in
set_option maxRecDepth 100000 in
theorem m_X7_isAt (l : Launch) (G : zt_G) {σ : zt_St} {x1 : Int32} {x2 : Int32} {r : Int32} (hf : f_X7_isAt σ x1 x2 = some r) : zt_Mi l G yX7_isAt wsX7_isAt 1 21 [.ref (zt_ad G 1), .int x1, .int x2] σ r σ := by
  refine Met.ofW (cc := cX7_isAt) (maxL := 3) (ret := (some .boolean)) (by decide) rfl ?_
  intro p e s m args below meth c s₁ B hml hv
  obtain ⟨rfl, hBB⟩ := hv
  have hE := zt_B.env hBB; have hK := hE.2.1; have hP := hBB.2.1
  have hx := B.exec; have hb := B.bytes; have hr := B.returns; have hts := atoms_spec (ws := wsX7_isAt) B.pre
  have hown : s.vm.findClass RX7 = some m.cls := findClass_of_methodNamed B.named
  have hlocks := B.notSynchronized
  have hS : va_S (zt_A G) s.heap s.heap [] := va_S.rf
  have hl := lv_entry ([.ref (zt_ad G 1), .int x1, .int x2]) (n := 3) (Nat.le_of_ble_eq_true rfl)
  rw [lg_entry_eq]
  generalize (lg_sl ([.ref (zt_ad G 1), .int x1, .int x2]) ++ List.replicate (3 - (lg_sl ([.ref (zt_ad G 1), .int x1, .int x2])).length) Slot.unset).toArray = ls at hl ⊢
  have hl : lv_has ls 3 [(0, .ref (zt_ad G 1)), (1, .int x1), (2, .int x2)] := hl
  show W p l e (zt_R 1 21) s m ([.ref (zt_ad G 1), .int x1, .int x2] : List Value).toArray below meth c s.heap [] 0 0 (MQ below (zt_Ci G r σ) ([.ref (zt_ad G 1), .int x1, .int x2] : List Value).toArray s 0 0 (zt_A G)) (F0 m 0 ls [])
  have fl22 := hts (.fieldLink RX7 22 "ZoneTree$Zones" "count" "I") (List.mem_cons_of_mem _ (List.mem_append_left _ (List.mem_append_left _ (List.mem_of_getElem? (i := 0) rfl))))
  have fl29 := zt_Nw.use (args := ([.ref (zt_ad G 1), .int x1, .int x2] : List Value).toArray) hE.2.2.1 (q := ("ZoneTree$Zones", 29, "ZoneTree$Zone", "apex", "I", "ZoneTree")) (List.mem_of_getElem? (i := 1) rfl)
  have inX6 : ∀ w ∈ wsX60, w ∈ wsX7_isAt := fun w h => (List.mem_cons_of_mem _ (List.mem_append_right _ h))
  have inX7 : ∀ w ∈ wsX70, w ∈ wsX7_isAt := fun w h => (List.mem_cons_of_mem _ (List.mem_append_left _ (List.mem_append_right _ h)))
  unfold f_X7_isAt at hf
  refine lv_iload_n hx hb dX7_isAt_0 rfl (lv_at hl 1 rfl) ?_
  refine lv_if_lt (tgt := 28) hx hb dX7_isAt_1 (by decide) (fun c1 => ?_) (fun c1 => ?_)
  · have hf := (if_pos c1).symm.trans hf
    refine lv_iconst (v := 0) hx hb dX7_isAt_28 (by decide) ?_
    exact W.zret hx hb hr (zt_bn (by decide)).1 (fun t ht hW => ⟨⟨_, _, rfl, ⟨Option.some.inj hf, rfl⟩, zt_go hE hP hS zt_id ht hW⟩, hS.F ht⟩) hS.2.2 dX7_isAt_29
  · have hf := (if_neg c1).symm.trans hf
    refine lv_iload_n hx hb dX7_isAt_4 rfl (lv_at hl 1 rfl) ?_
    refine lv_aload_n hx hb dX7_isAt_5 rfl (lv_at hl 0 rfl) ?_
    refine va_get (D := zt_D G) (ci := 6) (v := .int (σ 1 1)) (C := RX7) (T := TX7) (N := 2) hx hb hts inX7 hown hK hP 1 (zt_a6 (rfl : zt_kd 1 = 6)) rfl 1 (by decide) fl22 (fun _ h9 => h9) rfl dX7_isAt_6 ?_
    refine lv_icmp_ge (tgt := 28) hx hb dX7_isAt_9 (by decide) (fun c2 => ?_) (fun c2 => ?_)
    · have hf := (if_pos c2).symm.trans hf
      refine lv_iconst (v := 0) hx hb dX7_isAt_28 (by decide) ?_
      exact W.zret hx hb hr (zt_bn (by decide)).1 (fun t ht hW => ⟨⟨_, _, rfl, ⟨Option.some.inj hf, rfl⟩, zt_go hE hP hS zt_id ht hW⟩, hS.F ht⟩) hS.2.2 dX7_isAt_29
    · have hf := (if_neg c2).symm.trans hf
      refine lv_aload_n hx hb dX7_isAt_12 rfl (lv_at hl 0 rfl) ?_
      refine lv_iload_n hx hb dX7_isAt_13 rfl (lv_at hl 1 rfl) ?_
      obtain ⟨z5, hvv3, hf⟩ := zt_bd_some hf; obtain ⟨g6, hf⟩ := zt_gd_some hf; have hz5 := of_decide_eq_true g6
      refine va_callr (va_runV (As := [.int x1]) (rest := []) ⟨hx, hb, hml, hown, hts⟩ (m_X7_at l G (σ := σ) hvv3) (cwV 1 hts gX7_isAt_X7_at rfl rfl rfl zh_X7_at ⟨Nat.le_of_ble_eq_true rfl, Nat.le_of_ble_eq_true rfl⟩) ⟨zt_blind, va_recv hK hP (ci := 6) (q0 := 1) rfl (zt_a6 (rfl : zt_kd 1 = 6)), fun U hU hW => ⟨rfl, zt_go hE hP hS zt_id hU hW⟩⟩ rfl rfl hl.1 rfl (lv_room (Nat.le_of_ble_eq_true rfl)) dX7_isAt_14 ⟨Nat.zero_le _, Nat.zero_le _⟩) hS (fun _ _ h => h) (fun _ h => h) (fun u a t H locs ht hvm hw hB _ _ hS => ?_)
      rw [hB.1]; have hB : zt_B G u t := hB.2; rw [hw] at hB; have hP := zt_B.P hB ht
      refine va_getN (D := zt_D G) (ci := 5) (v := .int (σ z5 0)) (C := RX6) (T := TX6) (N := 11) hx hb hts inX6 hown hK hP z5 (zt_a5 hz5) rfl 0 (by decide) fl29 (fun _ h9 => h9) rfl dX7_isAt_17 ?_
      refine lv_iload_n hx hb dX7_isAt_20 rfl (lv_at hl 2 rfl) ?_
      refine lv_icmp_ne (tgt := 28) hx hb dX7_isAt_21 (by decide) (fun c7 => ?_) (fun c7 => ?_)
      · have hf := (if_neg c7).symm.trans hf
        refine lv_iconst (v := 0) hx hb dX7_isAt_28 (by decide) ?_
        exact W.zret hx hb hr (zt_bn (by decide)).1 (fun t ht hW => ⟨⟨_, _, rfl, ⟨Option.some.inj hf, rfl⟩, zt_go hE hP hS zt_id ht hW⟩, hS.F ht⟩) hS.2.2 dX7_isAt_29
      · have hf := (if_pos c7).symm.trans hf
        refine lv_iconst (v := 1) hx hb dX7_isAt_24 (by decide) ?_
        refine lv_goto (tgt := 29) hx hb dX7_isAt_25 (by decide) ?_
        exact W.zret hx hb hr (zt_bn (by decide)).1 (fun t ht hW => ⟨⟨_, _, rfl, ⟨Option.some.inj hf, rfl⟩, zt_go hE hP hS zt_id ht hW⟩, hS.F ht⟩) hS.2.2 dX7_isAt_29

theorem zh_X6_isRowFit : yX6_isRowFit.cls = RX6 ∧ yX6_isRowFit.cls ≠ "java/lang/invoke/MethodHandle" ∧ yX6_isRowFit.cls ≠ "java/lang/invoke/VarHandle" ∧ (parseMethodDescriptor yX6_isRowFit.desc).map (fun d => d.parameters.length) = some 3 := by decide +kernel
set_option maxHeartbeats 4000000 in
set_option maxRecDepth 100000 in
theorem m_X6_isRowFit (l : Launch) (G : zt_G) {σ : zt_St} {k0 : Nat} (hk0 : zt_kd k0 = 5) {k1 : Nat} (hk1 : zt_kd k1 = 3) {x2 : Int32} {r : Int32} (hf : f_X6_isRowFit σ k0 k1 x2 = some r) : zt_Mi l G yX6_isRowFit wsX6_isRowFit 2 45 [.ref (zt_ad G k0), .ref (zt_ad G k1), .int x2, .ref (zt_ad G 1)] σ r σ := by
  refine Met.ofW (cc := cX6_isRowFit) (maxL := 6) (ret := (some .boolean)) (by decide) rfl ?_
  intro p e s m args below meth c s₁ B hml hv
  obtain ⟨rfl, hBB⟩ := hv
  have hE := zt_B.env hBB; have hK := hE.2.1; have hP := hBB.2.1
  have hx := B.exec; have hb := B.bytes; have hr := B.returns; have hts := atoms_spec (ws := wsX6_isRowFit) B.pre
  have hown : s.vm.findClass RX6 = some m.cls := findClass_of_methodNamed B.named
  have hlocks := B.notSynchronized
  have hS : va_S (zt_A G) s.heap s.heap [] := va_S.rf
  have hl := lv_entry ([.ref (zt_ad G k0), .ref (zt_ad G k1), .int x2, .ref (zt_ad G 1)]) (n := 6) (Nat.le_of_ble_eq_true rfl)
  rw [lg_entry_eq]
  generalize (lg_sl ([.ref (zt_ad G k0), .ref (zt_ad G k1), .int x2, .ref (zt_ad G 1)]) ++ List.replicate (6 - (lg_sl ([.ref (zt_ad G k0), .ref (zt_ad G k1), .int x2, .ref (zt_ad G 1)])).length) Slot.unset).toArray = ls at hl ⊢
  have hl : lv_has ls 6 [(0, .ref (zt_ad G k0)), (1, .ref (zt_ad G k1)), (2, .int x2), (3, .ref (zt_ad G 1))] := hl
  show W p l e (zt_R 2 45) s m ([.ref (zt_ad G k0), .ref (zt_ad G k1), .int x2, .ref (zt_ad G 1)] : List Value).toArray below meth c s.heap [] 0 0 (MQ below (zt_Ci G r σ) ([.ref (zt_ad G k0), .ref (zt_ad G k1), .int x2, .ref (zt_ad G 1)] : List Value).toArray s 0 0 (zt_A G)) (F0 m 0 ls [])
  have fl33 := hts (.fieldLink RX6 33 "ZoneTree$Zone" "apex" "I") (List.mem_cons_of_mem _ (List.mem_append_left _ (List.mem_append_left _ (List.mem_append_left _ (List.mem_append_left _ (List.mem_of_getElem? (i := 0) rfl))))))
  have inX6 : ∀ w ∈ wsX60, w ∈ wsX6_isRowFit := fun w h => (List.mem_cons_of_mem _ (List.mem_append_left _ (List.mem_append_left _ (List.mem_append_right _ h))))
  unfold f_X6_isRowFit at hf
  refine lv_aload_n hx hb dX6_isRowFit_0 rfl (lv_at hl 1 rfl) ?_
  refine lv_iload_n hx hb dX6_isRowFit_1 rfl (lv_at hl 2 rfl) ?_
  obtain ⟨v1, hvv1, hf⟩ := zt_bd_some hf
  refine va_calli (va_runV (As := [.int x2]) (rest := []) ⟨hx, hb, hml, hown, hts⟩ (m_X4_placeAt l G hk1 (σ := σ) hvv1) (cwV 1 hts gX6_isRowFit_X4_placeAt rfl rfl rfl zh_X4_placeAt ⟨Nat.le_of_ble_eq_true rfl, Nat.le_of_ble_eq_true rfl⟩) ⟨zt_blind, va_recv hK hP (ci := 3) (q0 := k1) rfl (zt_a3 hk1), fun U hU hW => ⟨rfl, zt_go hE hP hS zt_id hU hW⟩⟩ rfl rfl hl.1 rfl (lv_room (Nat.le_of_ble_eq_true rfl)) dX6_isRowFit_2 ⟨Nat.zero_le _, Nat.zero_le _⟩) hS (fun _ _ h => h) (fun _ h => h) (fun r u t H locs ht hvm hw hB _ _ hS => ?_)
  rw [hw.1]; have hB : zt_B G u t := hB; rw [hw.2] at hB; have hP := zt_B.P hB ht
  refine lv_istore (lv' := [(4, .int v1), (0, .ref (zt_ad G k0)), (1, .ref (zt_ad G k1)), (2, .int x2), (3, .ref (zt_ad G 1))]) hx hb dX6_isRowFit_5 hl (by decide) rfl (fun ls hl => ?_)
  refine lv_aload_n hx hb dX6_isRowFit_7 rfl (lv_at hl 2 rfl) ?_
  refine lv_iload_n hx hb dX6_isRowFit_8 rfl (lv_at hl 3 rfl) ?_
  obtain ⟨v3, hvv3, hf⟩ := zt_bd_some hf
  refine va_calli (va_runV (As := [.int x2]) (rest := []) ⟨hx, hb, hml, hown, hts⟩ (m_X4_sortAt l G hk1 (σ := σ) hvv3) (cwV 1 hts gX6_isRowFit_X4_sortAt rfl rfl rfl zh_X4_sortAt ⟨Nat.le_of_ble_eq_true rfl, Nat.le_of_ble_eq_true rfl⟩) ⟨zt_blind, va_recv hK hP (ci := 3) (q0 := k1) rfl (zt_a3 hk1), fun U hU hW => ⟨rfl, zt_go hE hP hS zt_id hU hW⟩⟩ rfl rfl hl.1 rfl (lv_room (Nat.le_of_ble_eq_true rfl)) dX6_isRowFit_9 ⟨Nat.zero_le _, Nat.zero_le _⟩) hS (fun _ _ h => h) (fun _ h => h) (fun r u t H locs ht hvm hw hB _ _ hS => ?_)
  rw [hw.1]; have hB : zt_B G u t := hB; rw [hw.2] at hB; have hP := zt_B.P hB ht
  refine lv_istore (lv' := [(5, .int v3), (4, .int v1), (0, .ref (zt_ad G k0)), (1, .ref (zt_ad G k1)), (2, .int x2), (3, .ref (zt_ad G 1))]) hx hb dX6_isRowFit_12 hl (by decide) rfl (fun ls hl => ?_)
  refine lv_iload hx hb dX6_isRowFit_14 (lv_at hl 1 rfl) ?_
  obtain ⟨v5, hvv5, hf⟩ := zt_bd_some hf
  refine va_calli (va_runS (As := [.int v1]) (rest := []) ⟨hx, hb, hml, hown, hts⟩ (m_X3_nameOf l G (σ := σ) hvv5) (va_cwS 1 hts gX6_isRowFit_X3_nameOf rfl rfl rfl zh_X3_nameOf ⟨Nat.le_of_ble_eq_true rfl, Nat.le_of_ble_eq_true rfl⟩) ⟨zt_blind, fun U hU hW => ⟨rfl, zt_go hE hP hS zt_id hU hW⟩⟩ rfl rfl hl.1 rfl (lv_room (Nat.le_of_ble_eq_true rfl)) dX6_isRowFit_16 ⟨Nat.zero_le _, Nat.zero_le _⟩) hS (fun _ _ h => h) (fun _ h => h) (fun r u t H locs ht hvm hw hB _ _ hS => ?_)
  rw [hw.1]; have hB : zt_B G u t := hB; rw [hw.2] at hB; have hP := zt_B.P hB ht
  refine lv_aload_n hx hb dX6_isRowFit_19 rfl (lv_at hl 2 rfl) ?_
  refine va_get (D := zt_D G) (ci := 5) (v := .int (σ k0 0)) (C := RX6) (T := TX6) (N := 11) hx hb hts inX6 hown hK hP k0 (zt_a5 hk0) rfl 0 (by decide) fl33 (fun _ h9 => h9) rfl dX6_isRowFit_20 ?_
  obtain ⟨v7, hvv7, hf⟩ := zt_bd_some hf
  refine va_calli (va_runS (As := [.int v5, .int (σ k0 0)]) (rest := []) ⟨hx, hb, hml, hown, hts⟩ (m_X3_isUnder l G (σ := σ) hvv7) (va_cwS 2 hts gX6_isRowFit_X3_isUnder rfl rfl rfl zh_X3_isUnder ⟨Nat.le_of_ble_eq_true rfl, Nat.le_of_ble_eq_true rfl⟩) ⟨zt_blind, fun U hU hW => ⟨rfl, zt_go hE hP hS zt_id hU hW⟩⟩ rfl rfl hl.1 rfl (lv_room (Nat.le_of_ble_eq_true rfl)) dX6_isRowFit_23 ⟨Nat.zero_le _, Nat.zero_le _⟩) hS (fun _ _ h => h) (fun _ h => h) (fun r u t H locs ht hvm hw hB _ _ hS => ?_)
  rw [hw.1]; have hB : zt_B G u t := hB; rw [hw.2] at hB; have hP := zt_B.P hB ht
  refine lv_if_ne (tgt := 31) hx hb dX6_isRowFit_26 (by decide) (fun c9 => ?_) (fun c9 => ?_)
  · have hf := (if_neg c9).symm.trans hf
    refine lv_iload hx hb dX6_isRowFit_31 (lv_at hl 0 rfl) ?_
    by_cases c10 : v3 = 1
    · have hf := (if_pos c10).symm.trans hf
      refine lv_tableIn (off := 31) (tgt := 64) hx hb dX6_isRowFit_33 (by rw [c10]; decide) (by rw [c10]; decide) (by rw [c10]; rfl) (by decide) ?_
      refine lv_aload_n hx hb dX6_isRowFit_64 rfl (lv_at hl 3 rfl) ?_
      refine lv_iload hx hb dX6_isRowFit_65 (lv_at hl 1 rfl) ?_
      obtain ⟨v11, hvv11, hf⟩ := zt_bd_some hf
      refine va_calli (va_runV (As := [.int v1]) (rest := []) ⟨hx, hb, hml, hown, hts⟩ (m_X4_countAt l G hk1 (σ := σ) hvv11) (cwV 1 hts gX6_isRowFit_X4_countAt rfl rfl rfl zh_X4_countAt ⟨Nat.le_of_ble_eq_true rfl, Nat.le_of_ble_eq_true rfl⟩) ⟨zt_blind, va_recv hK hP (ci := 3) (q0 := k1) rfl (zt_a3 hk1), fun U hU hW => ⟨rfl, zt_go hE hP hS zt_id hU hW⟩⟩ rfl rfl hl.1 rfl (lv_room (Nat.le_of_ble_eq_true rfl)) dX6_isRowFit_67 ⟨Nat.zero_le _, Nat.zero_le _⟩) hS (fun _ _ h => h) (fun _ h => h) (fun r u t H locs ht hvm hw hB _ _ hS => ?_)
      rw [hw.1]; have hB : zt_B G u t := hB; rw [hw.2] at hB; have hP := zt_B.P hB ht
      refine lv_iconst (v := 1) hx hb dX6_isRowFit_70 (by decide) ?_
      refine lv_icmp_ne (tgt := 78) hx hb dX6_isRowFit_71 (by decide) (fun c13 => ?_) (fun c13 => ?_)
      · have hf := (if_neg c13).symm.trans hf
        refine lv_iconst (v := 0) hx hb dX6_isRowFit_78 (by decide) ?_
        exact W.zret hx hb hr (zt_bn (by decide)).1 (fun t ht hW => ⟨⟨_, _, rfl, ⟨Option.some.inj hf, rfl⟩, zt_go hE hP hS zt_id ht hW⟩, hS.F ht⟩) hS.2.2 dX6_isRowFit_79
      · have hf := (if_pos c13).symm.trans hf
        refine lv_iconst (v := 1) hx hb dX6_isRowFit_74 (by decide) ?_
        refine lv_goto (tgt := 79) hx hb dX6_isRowFit_75 (by decide) ?_
        exact W.zret hx hb hr (zt_bn (by decide)).1 (fun t ht hW => ⟨⟨_, _, rfl, ⟨Option.some.inj hf, rfl⟩, zt_go hE hP hS zt_id ht hW⟩, hS.F ht⟩) hS.2.2 dX6_isRowFit_79
    · have hf := (if_neg c10).symm.trans hf
      by_cases c14 : v3 = 2
      · have hf := (if_pos c14).symm.trans hf
        refine lv_tableIn (off := 47) (tgt := 80) hx hb dX6_isRowFit_33 (by rw [c14]; decide) (by rw [c14]; decide) (by rw [c14]; rfl) (by decide) ?_
        refine lv_iload hx hb dX6_isRowFit_80 (lv_at hl 1 rfl) ?_
        obtain ⟨v15, hvv15, hf⟩ := zt_bd_some hf
        refine va_calli (va_runS (As := [.int v1]) (rest := []) ⟨hx, hb, hml, hown, hts⟩ (m_X3_isStar l G (σ := σ) hvv15) (va_cwS 1 hts gX6_isRowFit_X3_isStar rfl rfl rfl zh_X3_isStar ⟨Nat.le_of_ble_eq_true rfl, Nat.le_of_ble_eq_true rfl⟩) ⟨zt_blind, fun U hU hW => ⟨rfl, zt_go hE hP hS zt_id hU hW⟩⟩ rfl rfl hl.1 rfl (lv_room (Nat.le_of_ble_eq_true rfl)) dX6_isRowFit_82 ⟨Nat.zero_le _, Nat.zero_le _⟩) hS (fun _ _ h => h) (fun _ h => h) (fun r u t H locs ht hvm hw hB _ _ hS => ?_)
        rw [hw.1]; have hB : zt_B G u t := hB; rw [hw.2] at hB; have hP := zt_B.P hB ht
        refine lv_if_ne (tgt := 101) hx hb dX6_isRowFit_85 (by decide) (fun c17 => ?_) (fun c17 => ?_)
        · have hf := (if_neg c17).symm.trans hf
          refine lv_iconst (v := 0) hx hb dX6_isRowFit_101 (by decide) ?_
          exact W.zret hx hb hr (zt_bn (by decide)).1 (fun t ht hW => ⟨⟨_, _, rfl, ⟨Option.some.inj hf, rfl⟩, zt_go hE hP hS zt_id ht hW⟩, hS.F ht⟩) hS.2.2 dX6_isRowFit_102
        · have hf := (if_pos c17).symm.trans hf
          refine lv_aload_n hx hb dX6_isRowFit_88 rfl (lv_at hl 3 rfl) ?_
          refine lv_iload hx hb dX6_isRowFit_89 (lv_at hl 1 rfl) ?_
          obtain ⟨v18, hvv18, hf⟩ := zt_bd_some hf
          refine va_calli (va_runV (As := [.int v1]) (rest := []) ⟨hx, hb, hml, hown, hts⟩ (m_X4_isAnyElseUnder l G hk1 (σ := σ) hvv18) (cwV 1 hts gX6_isRowFit_X4_isAnyElseUnder rfl rfl rfl zh_X4_isAnyElseUnder ⟨Nat.le_of_ble_eq_true rfl, Nat.le_of_ble_eq_true rfl⟩) ⟨zt_blind, va_recv hK hP (ci := 3) (q0 := k1) rfl (zt_a3 hk1), fun U hU hW => ⟨rfl, zt_go hE hP hS zt_id hU hW⟩⟩ rfl rfl hl.1 rfl (lv_room (Nat.le_of_ble_eq_true rfl)) dX6_isRowFit_91 ⟨Nat.zero_le _, Nat.zero_le _⟩) hS (fun _ _ h => h) (fun _ h => h) (fun r u t H locs ht hvm hw hB _ _ hS => ?_)
          rw [hw.1]; have hB : zt_B G u t := hB; rw [hw.2] at hB; have hP := zt_B.P hB ht
          refine lv_if_ne (tgt := 101) hx hb dX6_isRowFit_94 (by decide) (fun c20 => ?_) (fun c20 => ?_)
          · have hf := (if_neg c20).symm.trans hf
            refine lv_iconst (v := 0) hx hb dX6_isRowFit_101 (by decide) ?_
            exact W.zret hx hb hr (zt_bn (by decide)).1 (fun t ht hW => ⟨⟨_, _, rfl, ⟨Option.some.inj hf, rfl⟩, zt_go hE hP hS zt_id ht hW⟩, hS.F ht⟩) hS.2.2 dX6_isRowFit_102
          · have hf := (if_pos c20).symm.trans hf
            refine lv_iconst (v := 1) hx hb dX6_isRowFit_97 (by decide) ?_
            refine lv_goto (tgt := 102) hx hb dX6_isRowFit_98 (by decide) ?_
            exact W.zret hx hb hr (zt_bn (by decide)).1 (fun t ht hW => ⟨⟨_, _, rfl, ⟨Option.some.inj hf, rfl⟩, zt_go hE hP hS zt_id ht hW⟩, hS.F ht⟩) hS.2.2 dX6_isRowFit_102
      · have hf := (if_neg c14).symm.trans hf
        by_cases c21 : v3 = 3
        · have hf := (if_pos c21).symm.trans hf
          refine lv_tableIn (off := 70) (tgt := 103) hx hb dX6_isRowFit_33 (by rw [c21]; decide) (by rw [c21]; decide) (by rw [c21]; rfl) (by decide) ?_
          refine lv_iload hx hb dX6_isRowFit_103 (lv_at hl 1 rfl) ?_
          refine lv_aload_n hx hb dX6_isRowFit_105 rfl (lv_at hl 2 rfl) ?_
          refine va_get (D := zt_D G) (ci := 5) (v := .int (σ k0 0)) (C := RX6) (T := TX6) (N := 11) hx hb hts inX6 hown hK hP k0 (zt_a5 hk0) rfl 0 (by decide) fl33 (fun _ h9 => h9) rfl dX6_isRowFit_106 ?_
          refine lv_icmp_eq (tgt := 130) hx hb dX6_isRowFit_109 (by decide) (fun c22 => ?_) (fun c22 => ?_)
          · have hf := (if_pos c22).symm.trans hf
            refine lv_iconst (v := 0) hx hb dX6_isRowFit_130 (by decide) ?_
            exact W.zret hx hb hr (zt_bn (by decide)).1 (fun t ht hW => ⟨⟨_, _, rfl, ⟨Option.some.inj hf, rfl⟩, zt_go hE hP hS zt_id ht hW⟩, hS.F ht⟩) hS.2.2 dX6_isRowFit_131
          · have hf := (if_neg c22).symm.trans hf
            refine lv_aload_n hx hb dX6_isRowFit_112 rfl (lv_at hl 5 rfl) ?_
            refine lv_aload_n hx hb dX6_isRowFit_113 rfl (lv_at hl 3 rfl) ?_
            refine lv_iload_n hx hb dX6_isRowFit_114 rfl (lv_at hl 4 rfl) ?_
            obtain ⟨v23, hvv23, hf⟩ := zt_bd_some hf
            refine va_calli (va_runV (As := [.int x2]) (rest := [.ref (zt_ad G 1)]) ⟨hx, hb, hml, hown, hts⟩ (m_X4_numberAt l G hk1 (σ := σ) hvv23) (cwV 1 hts gX6_isRowFit_X4_numberAt rfl rfl rfl zh_X4_numberAt ⟨Nat.le_of_ble_eq_true rfl, Nat.le_of_ble_eq_true rfl⟩) ⟨zt_blind, va_recv hK hP (ci := 3) (q0 := k1) rfl (zt_a3 hk1), fun U hU hW => ⟨rfl, zt_go hE hP hS zt_id hU hW⟩⟩ rfl rfl hl.1 rfl (lv_room (Nat.le_of_ble_eq_true rfl)) dX6_isRowFit_115 ⟨Nat.zero_le _, Nat.zero_le _⟩) hS (fun _ _ h => h) (fun _ h => h) (fun r u t H locs ht hvm hw hB _ _ hS => ?_)
            rw [hw.1]; have hB : zt_B G u t := hB; rw [hw.2] at hB; have hP := zt_B.P hB ht
            refine lv_iload hx hb dX6_isRowFit_118 (lv_at hl 1 rfl) ?_
            obtain ⟨v25, hvv25, hf⟩ := zt_bd_some hf
            refine va_calli (va_runV (As := [.int v23, .int v1]) (rest := []) ⟨hx, hb, hml, hown, hts⟩ (m_X7_isAt l G (σ := σ) hvv25) (cwV 2 hts gX6_isRowFit_X7_isAt rfl rfl rfl zh_X7_isAt ⟨Nat.le_of_ble_eq_true rfl, Nat.le_of_ble_eq_true rfl⟩) ⟨zt_blind, va_recv hK hP (ci := 6) (q0 := 1) rfl (zt_a6 (rfl : zt_kd 1 = 6)), fun U hU hW => ⟨rfl, zt_go hE hP hS zt_id hU hW⟩⟩ rfl rfl hl.1 rfl (lv_room (Nat.le_of_ble_eq_true rfl)) dX6_isRowFit_120 ⟨Nat.zero_le _, Nat.zero_le _⟩) hS (fun _ _ h => h) (fun _ h => h) (fun r u t H locs ht hvm hw hB _ _ hS => ?_)
            rw [hw.1]; have hB : zt_B G u t := hB; rw [hw.2] at hB; have hP := zt_B.P hB ht
            refine lv_if_eq (tgt := 130) hx hb dX6_isRowFit_123 (by decide) (fun c27 => ?_) (fun c27 => ?_)
            · have hf := (if_pos c27).symm.trans hf
              refine lv_iconst (v := 0) hx hb dX6_isRowFit_130 (by decide) ?_
              exact W.zret hx hb hr (zt_bn (by decide)).1 (fun t ht hW => ⟨⟨_, _, rfl, ⟨Option.some.inj hf, rfl⟩, zt_go hE hP hS zt_id ht hW⟩, hS.F ht⟩) hS.2.2 dX6_isRowFit_131
            · have hf := (if_neg c27).symm.trans hf
              refine lv_iconst (v := 1) hx hb dX6_isRowFit_126 (by decide) ?_
              refine lv_goto (tgt := 131) hx hb dX6_isRowFit_127 (by decide) ?_
              exact W.zret hx hb hr (zt_bn (by decide)).1 (fun t ht hW => ⟨⟨_, _, rfl, ⟨Option.some.inj hf, rfl⟩, zt_go hE hP hS zt_id ht hW⟩, hS.F ht⟩) hS.2.2 dX6_isRowFit_131
        · have hf := (if_neg c21).symm.trans hf
          by_cases c28 : v3 = 4
          · have hf := (if_pos c28).symm.trans hf
            refine lv_tableIn (off := 99) (tgt := 132) hx hb dX6_isRowFit_33 (by rw [c28]; decide) (by rw [c28]; decide) (by rw [c28]; rfl) (by decide) ?_
            refine lv_aload_n hx hb dX6_isRowFit_132 rfl (lv_at hl 3 rfl) ?_
            refine lv_iload hx hb dX6_isRowFit_133 (lv_at hl 1 rfl) ?_
            refine lv_iconst (v := 3) hx hb dX6_isRowFit_135 (by decide) ?_
            obtain ⟨v29, hvv29, hf⟩ := zt_bd_some hf
            refine va_calli (va_runV (As := [.int v1, .int 3]) (rest := []) ⟨hx, hb, hml, hown, hts⟩ (m_X4_rowOf l G hk1 (σ := σ) hvv29) (cwV 2 hts gX6_isRowFit_X4_rowOf rfl rfl rfl zh_X4_rowOf ⟨Nat.le_of_ble_eq_true rfl, Nat.le_of_ble_eq_true rfl⟩) ⟨zt_blind, va_recv hK hP (ci := 3) (q0 := k1) rfl (zt_a3 hk1), fun U hU hW => ⟨rfl, zt_go hE hP hS zt_id hU hW⟩⟩ rfl rfl hl.1 rfl (lv_room (Nat.le_of_ble_eq_true rfl)) dX6_isRowFit_136 ⟨Nat.zero_le _, Nat.zero_le _⟩) hS (fun _ _ h => h) (fun _ h => h) (fun r u t H locs ht hvm hw hB _ _ hS => ?_)
            rw [hw.1]; have hB : zt_B G u t := hB; rw [hw.2] at hB; have hP := zt_B.P hB ht
            refine lv_iconst (v := (-1)) hx hb dX6_isRowFit_139 (by decide) ?_
            refine lv_icmp_eq (tgt := 147) hx hb dX6_isRowFit_140 (by decide) (fun c31 => ?_) (fun c31 => ?_)
            · have hf := (if_pos c31).symm.trans hf
              refine lv_iconst (v := 0) hx hb dX6_isRowFit_147 (by decide) ?_
              exact W.zret hx hb hr (zt_bn (by decide)).1 (fun t ht hW => ⟨⟨_, _, rfl, ⟨Option.some.inj hf, rfl⟩, zt_go hE hP hS zt_id ht hW⟩, hS.F ht⟩) hS.2.2 dX6_isRowFit_148
            · have hf := (if_neg c31).symm.trans hf
              refine lv_iconst (v := 1) hx hb dX6_isRowFit_143 (by decide) ?_
              refine lv_goto (tgt := 148) hx hb dX6_isRowFit_144 (by decide) ?_
              exact W.zret hx hb hr (zt_bn (by decide)).1 (fun t ht hW => ⟨⟨_, _, rfl, ⟨Option.some.inj hf, rfl⟩, zt_go hE hP hS zt_id ht hW⟩, hS.F ht⟩) hS.2.2 dX6_isRowFit_148
          · have hf := (if_neg c28).symm.trans hf
            have hc10 := zt_nz (1) (by decide) c10
            have hc14 := zt_nz (2) (by decide) c14
            have hc21 := zt_nz (3) (by decide) c21
            have hc28 := zt_nz (4) (by decide) c28
            refine lv_tableOut (tgt := 149) hx hb dX6_isRowFit_33 (by omega) (by decide) ?_
            refine lv_iconst (v := 1) hx hb dX6_isRowFit_149 (by decide) ?_
            exact W.zret hx hb hr (zt_bn (by decide)).1 (fun t ht hW => ⟨⟨_, _, rfl, ⟨Option.some.inj hf, rfl⟩, zt_go hE hP hS zt_id ht hW⟩, hS.F ht⟩) hS.2.2 dX6_isRowFit_150
  · have hf := (if_pos c9).symm.trans hf
    refine lv_iconst (v := 0) hx hb dX6_isRowFit_29 (by decide) ?_
    exact W.zret hx hb hr (zt_bn (by decide)).1 (fun t ht hW => ⟨⟨_, _, rfl, ⟨Option.some.inj hf, rfl⟩, zt_go hE hP hS zt_id ht hW⟩, hS.F ht⟩) hS.2.2 dX6_isRowFit_30

theorem zh_X6_isFit : yX6_isFit.cls = RX6 ∧ yX6_isFit.cls ≠ "java/lang/invoke/MethodHandle" ∧ yX6_isFit.cls ≠ "java/lang/invoke/VarHandle" ∧ (parseMethodDescriptor yX6_isFit.desc).map (fun d => d.parameters.length) = some 2 := by decide +kernel
set_option maxHeartbeats 4000000 in
set_option maxRecDepth 100000 in
theorem m_X6_isFit (l : Launch) (G : zt_G) {σ : zt_St} {k0 : Nat} (hk0 : zt_kd k0 = 5) {k1 : Nat} (hk1 : zt_kd k1 = 3) {r : Int32} (hf : f_X6_isFit σ k0 k1 = some r) : zt_Mi l G yX6_isFit wsX6_isFit 3 70 [.ref (zt_ad G k0), .ref (zt_ad G k1), .ref (zt_ad G 1)] σ r σ := by
  refine Met.ofW (cc := cX6_isFit) (maxL := 5) (ret := (some .boolean)) (by decide) rfl ?_
  intro p e s m args below meth c s₁ B hml hv
  obtain ⟨rfl, hBB⟩ := hv
  have hE := zt_B.env hBB; have hK := hE.2.1; have hP := hBB.2.1
  have hx := B.exec; have hb := B.bytes; have hr := B.returns; have hts := atoms_spec (ws := wsX6_isFit) B.pre
  have hown : s.vm.findClass RX6 = some m.cls := findClass_of_methodNamed B.named
  have hlocks := B.notSynchronized
  have hS : va_S (zt_A G) s.heap s.heap [] := va_S.rf
  have hl := lv_entry ([.ref (zt_ad G k0), .ref (zt_ad G k1), .ref (zt_ad G 1)]) (n := 5) (Nat.le_of_ble_eq_true rfl)
  rw [lg_entry_eq]
  generalize (lg_sl ([.ref (zt_ad G k0), .ref (zt_ad G k1), .ref (zt_ad G 1)]) ++ List.replicate (5 - (lg_sl ([.ref (zt_ad G k0), .ref (zt_ad G k1), .ref (zt_ad G 1)])).length) Slot.unset).toArray = ls at hl ⊢
  have hl : lv_has ls 5 [(0, .ref (zt_ad G k0)), (1, .ref (zt_ad G k1)), (2, .ref (zt_ad G 1))] := hl
  show W p l e (zt_R 3 70) s m ([.ref (zt_ad G k0), .ref (zt_ad G k1), .ref (zt_ad G 1)] : List Value).toArray below meth c s.heap [] 0 0 (MQ below (zt_Ci G r σ) ([.ref (zt_ad G k0), .ref (zt_ad G k1), .ref (zt_ad G 1)] : List Value).toArray s 0 0 (zt_A G)) (F0 m 0 ls [])
  have fl39 := zt_Nw.use (args := ([.ref (zt_ad G k0), .ref (zt_ad G k1), .ref (zt_ad G 1)] : List Value).toArray) hE.2.2.1 (q := ("ZoneTree$Zone", 39, "ZoneTree$Records", "count", "I", "ZoneTree")) (List.mem_of_getElem? (i := 0) rfl)
  have inX4 : ∀ w ∈ wsX40, w ∈ wsX6_isFit := fun w h => (List.mem_cons_of_mem _ (List.mem_append_left _ (List.mem_append_left _ (List.mem_append_right _ h))))
  have B18 : ∀ (n : Nat), ∀ (u3 : Int32) (u4 : Int32) (H : Heap) (locs : List Loc) (ls : Array Slot), f_X6_isFit_18 σ k0 k1 n u3 u4 = some r → va_P (zt_D G) vwCl (zt_ww G σ) H → va_S (zt_A G) s.heap H locs → lv_has ls 5 [(0, .ref (zt_ad G k0)), (1, .ref (zt_ad G k1)), (2, .ref (zt_ad G 1)), (3, .int u3), (4, .int u4)] → W p l e (zt_R 3 70) s m ([.ref (zt_ad G k0), .ref (zt_ad G k1), .ref (zt_ad G 1)] : List Value).toArray below meth c H locs 0 0 (MQ below (zt_Ci G r σ) ([.ref (zt_ad G k0), .ref (zt_ad G k1), .ref (zt_ad G 1)] : List Value).toArray s 0 0 (zt_A G)) (F0 m 18 ls []) := by
    intro n
    induction n with
    | zero => intro u3 u4 H locs ls hf; exact nomatch hf
    | succ n hrc18 =>
      intro u3 u4 H locs ls hf hP hS hl
      generalize hrcg : f_X6_isFit_18 σ k0 k1 n = rc18 at hrc18
      have hf : f_X6_isFit_18b σ k0 k1 rc18 u3 u4 = some r := by rw [← hrcg]; exact hf
      unfold f_X6_isFit_18b at hf
      refine lv_iload hx hb dX6_isFit_18 (lv_at hl 4 rfl) ?_
      refine lv_aload_n hx hb dX6_isFit_20 rfl (lv_at hl 1 rfl) ?_
      refine va_getN (D := zt_D G) (ci := 3) (v := .int (σ k1 4)) (C := RX4) (T := TX4) (N := 5) hx hb hts inX4 hown hK hP k1 (zt_a3 hk1) rfl 4 (by decide) fl39 (fun _ h9 => h9) rfl dX6_isFit_21 ?_
      refine lv_icmp_ge (tgt := 46) hx hb dX6_isFit_24 (by decide) (fun c2 => ?_) (fun c2 => ?_)
      · have hf := (if_pos c2).symm.trans hf
        refine lv_iload_n hx hb dX6_isFit_46 rfl (lv_at hl 3 rfl) ?_
        obtain ⟨g3, hf⟩ := zt_gd_some hf
        exact W.zret hx hb hr (zt_bn g3).1 (fun t ht hW => ⟨⟨_, _, rfl, ⟨Option.some.inj hf, rfl⟩, zt_go hE hP hS zt_id ht hW⟩, hS.F ht⟩) hS.2.2 dX6_isFit_47
      · have hf := (if_neg c2).symm.trans hf
        refine lv_iload_n hx hb dX6_isFit_27 rfl (lv_at hl 3 rfl) ?_
        refine lv_if_eq (tgt := 46) hx hb dX6_isFit_28 (by decide) (fun c4 => ?_) (fun c4 => ?_)
        · have hf := (if_pos c4).symm.trans hf
          refine lv_iload_n hx hb dX6_isFit_46 rfl (lv_at hl 3 rfl) ?_
          obtain ⟨g5, hf⟩ := zt_gd_some hf
          exact W.zret hx hb hr (zt_bn g5).1 (fun t ht hW => ⟨⟨_, _, rfl, ⟨Option.some.inj hf, rfl⟩, zt_go hE hP hS zt_id ht hW⟩, hS.F ht⟩) hS.2.2 dX6_isFit_47
        · have hf := (if_neg c4).symm.trans hf
          refine lv_aload_n hx hb dX6_isFit_31 rfl (lv_at hl 0 rfl) ?_
          refine lv_aload_n hx hb dX6_isFit_32 rfl (lv_at hl 1 rfl) ?_
          refine lv_iload hx hb dX6_isFit_33 (lv_at hl 4 rfl) ?_
          refine lv_aload_n hx hb dX6_isFit_35 rfl (lv_at hl 2 rfl) ?_
          obtain ⟨v6, hvv6, hf⟩ := zt_bd_some hf
          refine va_calli (va_runV (As := [.ref (zt_ad G k1), .int u4, .ref (zt_ad G 1)]) (rest := []) ⟨hx, hb, hml, hown, hts⟩ (m_X6_isRowFit l G hk0 hk1 (σ := σ) hvv6) (cwV 3 hts gX6_isFit_X6_isRowFit rfl rfl rfl zh_X6_isRowFit ⟨Nat.le_of_ble_eq_true rfl, Nat.le_of_ble_eq_true rfl⟩) ⟨zt_blind, va_recv hK hP (ci := 5) (q0 := k0) rfl (zt_a5 hk0), fun U hU hW => ⟨rfl, zt_go hE hP hS zt_id hU hW⟩⟩ rfl rfl hl.1 rfl (lv_room (Nat.le_of_ble_eq_true rfl)) dX6_isFit_36 ⟨Nat.zero_le _, Nat.zero_le _⟩) hS (fun _ _ h => h) (fun _ h => h) (fun r u t H locs ht hvm hw hB _ _ hS => ?_)
          rw [hw.1]; have hB : zt_B G u t := hB; rw [hw.2] at hB; have hP := zt_B.P hB ht
          refine lv_istore_n (lv' := [(3, .int v6), (0, .ref (zt_ad G k0)), (1, .ref (zt_ad G k1)), (2, .ref (zt_ad G 1)), (4, .int u4)]) hx hb dX6_isFit_39 rfl hl (by decide) rfl (fun ls hl => ?_)
          refine lv_iinc (v := (u4 + 1)) (lv' := [(4, .int (u4 + 1)), (3, .int v6), (0, .ref (zt_ad G k0)), (1, .ref (zt_ad G k1)), (2, .ref (zt_ad G 1))]) hx hb dX6_isFit_40 hl (k := 4) rfl rfl (by decide) rfl (fun ls hl => ?_)
          refine lv_goto (tgt := 18) hx hb dX6_isFit_43 (by decide) ?_
          exact hrc18 v6 (u4 + 1) _ _ _ hf hP hS (lv_sub hl [2, 3, 4, 1, 0] rfl)
  have B14 : ∀ (y0 : Int32) (H : Heap) (locs : List Loc) (ls : Array Slot), f_X6_isFit_14 σ k0 k1 y0 = some r → va_P (zt_D G) vwCl (zt_ww G σ) H → va_S (zt_A G) s.heap H locs → lv_has ls 5 [(0, .ref (zt_ad G k0)), (1, .ref (zt_ad G k1)), (2, .ref (zt_ad G 1))] → W p l e (zt_R 3 70) s m ([.ref (zt_ad G k0), .ref (zt_ad G k1), .ref (zt_ad G 1)] : List Value).toArray below meth c H locs 0 0 (MQ below (zt_Ci G r σ) ([.ref (zt_ad G k0), .ref (zt_ad G k1), .ref (zt_ad G 1)] : List Value).toArray s 0 0 (zt_A G)) (F0 m 14 ls [.int y0]) := by
    intro y0 H locs ls hf hP hS hl
    unfold f_X6_isFit_14 at hf
    refine lv_istore_n (lv' := [(3, .int y0), (0, .ref (zt_ad G k0)), (1, .ref (zt_ad G k1)), (2, .ref (zt_ad G 1))]) hx hb dX6_isFit_14 rfl hl (by decide) rfl (fun ls hl => ?_)
    refine lv_iconst (v := 0) hx hb dX6_isFit_15 (by decide) ?_
    refine lv_istore (lv' := [(4, .int 0), (3, .int y0), (0, .ref (zt_ad G k0)), (1, .ref (zt_ad G k1)), (2, .ref (zt_ad G 1))]) hx hb dX6_isFit_16 hl (by decide) rfl (fun ls hl => ?_)
    exact B18 zt_FU y0 0 _ _ _ hf hP hS (lv_sub hl [2, 3, 4, 1, 0] rfl)
  unfold f_X6_isFit at hf
  refine lv_aload_n hx hb dX6_isFit_0 rfl (lv_at hl 1 rfl) ?_
  refine va_getN (D := zt_D G) (ci := 3) (v := .int (σ k1 4)) (C := RX4) (T := TX4) (N := 5) hx hb hts inX4 hown hK hP k1 (zt_a3 hk1) rfl 4 (by decide) fl39 (fun _ h9 => h9) rfl dX6_isFit_1 ?_
  refine lv_bipush (v := 20) hx hb dX6_isFit_4 (by decide +kernel) ?_
  refine lv_icmp_gt (tgt := 13) hx hb dX6_isFit_6 (by decide) (fun c1 => ?_) (fun c1 => ?_)
  · have hf := (if_pos c1).symm.trans hf
    refine lv_iconst (v := 0) hx hb dX6_isFit_13 (by decide) ?_
    exact B14 0 _ _ _ hf hP hS (lv_sub hl [0, 1, 2] rfl)
  · have hf := (if_neg c1).symm.trans hf
    refine lv_iconst (v := 1) hx hb dX6_isFit_9 (by decide) ?_
    refine lv_goto (tgt := 14) hx hb dX6_isFit_10 (by decide) ?_
    exact B14 1 _ _ _ hf hP hS (lv_sub hl [0, 1, 2] rfl)

theorem zh_X6_take : yX6_take.cls = RX6 ∧ yX6_take.cls ≠ "java/lang/invoke/MethodHandle" ∧ yX6_take.cls ≠ "java/lang/invoke/VarHandle" ∧ (parseMethodDescriptor yX6_take.desc).map (fun d => d.parameters.length) = some 1 := by decide +kernel
set_option maxHeartbeats 4000000 in
set_option maxRecDepth 100000 in
theorem m_X6_take (l : Launch) (G : zt_G) {σ : zt_St} {k0 : Nat} (hk0 : zt_kd k0 = 5) {k1 : Nat} (hk1 : zt_kd k1 = 3) {σ1 : zt_St} (hf : f_X6_take σ k0 k1 = some σ1) : zt_Mv l G yX6_take wsX6_take 2 44 [.ref (zt_ad G k0), .ref (zt_ad G k1)] σ σ1 := by
  refine Met.ofW (cc := cX6_take) (maxL := 2) (ret := none) (by decide) rfl ?_
  intro p e s m args below meth c s₁ B hml hv
  obtain ⟨rfl, hBB⟩ := hv
  have hE := zt_B.env hBB; have hK := hE.2.1; have hP := hBB.2.1
  have hx := B.exec; have hb := B.bytes; have hr := B.returns; have hts := atoms_spec (ws := wsX6_take) B.pre
  have hown : s.vm.findClass RX6 = some m.cls := findClass_of_methodNamed B.named
  have hlocks := B.notSynchronized
  have hS : va_S (zt_A G) s.heap s.heap [] := va_S.rf
  have hl := lv_entry ([.ref (zt_ad G k0), .ref (zt_ad G k1)]) (n := 2) (Nat.le_of_ble_eq_true rfl)
  rw [lg_entry_eq]
  generalize (lg_sl ([.ref (zt_ad G k0), .ref (zt_ad G k1)]) ++ List.replicate (2 - (lg_sl ([.ref (zt_ad G k0), .ref (zt_ad G k1)])).length) Slot.unset).toArray = ls at hl ⊢
  have hl : lv_has ls 2 [(0, .ref (zt_ad G k0)), (1, .ref (zt_ad G k1))] := hl
  show W p l e (zt_R 2 44) s m ([.ref (zt_ad G k0), .ref (zt_ad G k1)] : List Value).toArray below meth c s.heap [] 0 0 (MQ below (zt_Cv G σ1) ([.ref (zt_ad G k0), .ref (zt_ad G k1)] : List Value).toArray s 0 0 (zt_A G)) (F0 m 0 ls [])
  have fl26 := hts (.fieldLink RX6 26 "ZoneTree$Zone" "records" "LZoneTree$Records;") (List.mem_cons_of_mem _ (List.mem_append_left _ (List.mem_append_left _ (List.mem_append_left _ (List.mem_of_getElem? (i := 0) rfl)))))
  have fl36 := hts (.fieldLink RX6 36 "ZoneTree$Zone" "serial" "I") (List.mem_cons_of_mem _ (List.mem_append_left _ (List.mem_append_left _ (List.mem_append_left _ (List.mem_of_getElem? (i := 1) rfl)))))
  have inX6 : ∀ w ∈ wsX60, w ∈ wsX6_take := fun w h => (List.mem_cons_of_mem _ (List.mem_append_left _ (List.mem_append_right _ h)))
  have B30 : ∀ (σ : zt_St) (y0 : Int32) (H : Heap) (locs : List Loc) (ls : Array Slot), f_X6_take_30 k0 k1 σ y0 = some σ1 → va_P (zt_D G) vwCl (zt_ww G σ) H → va_S (zt_A G) s.heap H locs → lv_has ls 2 [] → W p l e (zt_R 2 44) s m ([.ref (zt_ad G k0), .ref (zt_ad G k1)] : List Value).toArray below meth c H locs 0 0 (MQ below (zt_Cv G σ1) ([.ref (zt_ad G k0), .ref (zt_ad G k1)] : List Value).toArray s 0 0 (zt_A G)) (F0 m 30 ls [.int y0, .ref (zt_ad G k0)]) := by
    intro σ y0 H locs ls hf hP hS hl
    unfold f_X6_take_30 at hf
    obtain ⟨σ4, hσ4, hf⟩ := zt_lt_some hf
    refine va_put (D := zt_D G) (ci := 5) (v := .int y0) (ty := .int) (C := RX6) (T := TX6) (N := 11) hx hb hts inX6 tyX6 tyX6_ok nmX6 hown hK hP (zt_apart hE.1) hS k0 (zt_a5 hk0) rfl 2 (by decide) fl36 (fun _ h9 => h9) rfl (tyX6_ok 2 (by decide)) rfl rfl (Nat.le_of_ble_eq_true rfl) dX6_take_30 (fun H locs hP _ hS => ?_)
    rw [zt_p5_2 hk0, ← hσ4] at hP
    exact W.vret hx hb hr (fun t ht hW => ⟨⟨_, rfl, (Option.some.inj hf), zt_go hE hP hS zt_id ht hW⟩, hS.F ht⟩) hS.2.2 dX6_take_33
  unfold f_X6_take at hf
  refine lv_aload_n hx hb dX6_take_0 rfl (lv_at hl 0 rfl) ?_
  refine va_get (D := zt_D G) (ci := 5) (v := .ref (zt_ad G (k0 + 1))) (C := RX6) (T := TX6) (N := 11) hx hb hts inX6 hown hK hP k0 (zt_a5 hk0) rfl 9 (by decide) fl26 (fun _ h9 => h9) rfl dX6_take_1 ?_
  refine lv_aload_n hx hb dX6_take_4 rfl (lv_at hl 1 rfl) ?_
  obtain ⟨σ2, hvv1, hf⟩ := zt_bd_some hf
  refine va_callv (va_runV (As := [.ref (zt_ad G k1)]) (rest := []) ⟨hx, hb, hml, hown, hts⟩ (m_X4_become l G (zt_k5_9 hk0) hk1 (σ := σ) hvv1) (cwV 1 hts gX6_take_X4_become rfl rfl rfl zh_X4_become ⟨Nat.le_of_ble_eq_true rfl, Nat.le_of_ble_eq_true rfl⟩) ⟨zt_blind, va_recv hK hP (ci := 3) (q0 := (k0 + 1)) rfl (zt_a3 (zt_k5_9 hk0)), fun U hU hW => ⟨rfl, zt_go hE hP hS zt_id hU hW⟩⟩ rfl rfl hl.1 rfl (lv_room (Nat.le_of_ble_eq_true rfl)) dX6_take_5 ⟨Nat.zero_le _, Nat.zero_le _⟩) hS (fun _ _ h => h) (fun _ h => h) (fun u t H locs ht hvm hw hB _ _ hS => ?_)
  have hB : zt_B G u t := hB; rw [hw] at hB; have hP := zt_B.P hB ht
  refine lv_aload_n hx hb dX6_take_8 rfl (lv_at hl 0 rfl) ?_
  refine lv_aload_n hx hb dX6_take_9 rfl (lv_at hl 0 rfl) ?_
  refine va_get (D := zt_D G) (ci := 5) (v := .int (σ2 k0 2)) (C := RX6) (T := TX6) (N := 11) hx hb hts inX6 hown hK hP k0 (zt_a5 hk0) rfl 2 (by decide) fl36 (fun _ h9 => h9) rfl dX6_take_10 ?_
  refine lv_iconst (v := 1) hx hb dX6_take_13 (by decide) ?_
  refine lv_iadd hx hb dX6_take_14 ?_
  refine lv_bipush (v := 16) hx hb dX6_take_15 (by decide +kernel) ?_
  refine lv_icmp_ge (tgt := 29) hx hb dX6_take_17 (by decide) (fun c3 => ?_) (fun c3 => ?_)
  · have hf := (if_pos c3).symm.trans hf
    refine lv_iconst (v := 0) hx hb dX6_take_29 (by decide) ?_
    exact B30 σ2 0 _ _ _ hf hP hS (lv_sub hl [] rfl)
  · have hf := (if_neg c3).symm.trans hf
    refine lv_aload_n hx hb dX6_take_20 rfl (lv_at hl 0 rfl) ?_
    refine va_get (D := zt_D G) (ci := 5) (v := .int (σ2 k0 2)) (C := RX6) (T := TX6) (N := 11) hx hb hts inX6 hown hK hP k0 (zt_a5 hk0) rfl 2 (by decide) fl36 (fun _ h9 => h9) rfl dX6_take_21 ?_
    refine lv_iconst (v := 1) hx hb dX6_take_24 (by decide) ?_
    refine lv_iadd hx hb dX6_take_25 ?_
    refine lv_goto (tgt := 30) hx hb dX6_take_26 (by decide) ?_
    exact B30 σ2 ((σ2 k0 2) + 1) _ _ _ hf hP hS (lv_sub hl [] rfl)

theorem zh_X1_doTo : yX1_doTo.cls = RX1 ∧ yX1_doTo.cls ≠ "java/lang/invoke/MethodHandle" ∧ yX1_doTo.cls ≠ "java/lang/invoke/VarHandle" ∧ (parseMethodDescriptor yX1_doTo.desc).map (fun d => d.parameters.length) = some 2 := by decide +kernel
set_option maxHeartbeats 4000000 in
set_option maxRecDepth 100000 in
theorem m_X1_doTo (l : Launch) (G : zt_G) {σ : zt_St} {k1 : Nat} (hk1 : zt_kd k1 = 5) {r : Int32} {σ1 : zt_St} (hf : f_X1_doTo σ k1 = some (r, σ1)) : zt_Mi l G yX1_doTo wsX1_doTo 4 94 [.ref (zt_ad G 69), .ref (zt_ad G k1), .ref (zt_ad G 1)] σ r σ1 := by
  refine Met.ofW (cc := cX1_doTo) (maxL := 4) (ret := (some .boolean)) (by decide) rfl ?_
  intro p e s m args below meth c s₁ B hml hv
  obtain ⟨rfl, hBB⟩ := hv
  have hE := zt_B.env hBB; have hK := hE.2.1; have hP := hBB.2.1
  have hx := B.exec; have hb := B.bytes; have hr := B.returns; have hts := atoms_spec (ws := wsX1_doTo) B.pre
  have hown : s.vm.findClass RX1 = some m.cls := findClass_of_methodNamed B.named
  have hlocks := B.notSynchronized
  have hS : va_S (zt_A G) s.heap s.heap [] := va_S.rf
  have hl := lv_entry ([.ref (zt_ad G 69), .ref (zt_ad G k1), .ref (zt_ad G 1)]) (n := 4) (Nat.le_of_ble_eq_true rfl)
  rw [lg_entry_eq]
  generalize (lg_sl ([.ref (zt_ad G 69), .ref (zt_ad G k1), .ref (zt_ad G 1)]) ++ List.replicate (4 - (lg_sl ([.ref (zt_ad G 69), .ref (zt_ad G k1), .ref (zt_ad G 1)])).length) Slot.unset).toArray = ls at hl ⊢
  have hl : lv_has ls 4 [(0, .ref (zt_ad G 69)), (1, .ref (zt_ad G k1)), (2, .ref (zt_ad G 1))] := hl
  show W p l e (zt_R 4 94) s m ([.ref (zt_ad G 69), .ref (zt_ad G k1), .ref (zt_ad G 1)] : List Value).toArray below meth c s.heap [] 0 0 (MQ below (zt_Ci G r σ1) ([.ref (zt_ad G 69), .ref (zt_ad G k1), .ref (zt_ad G 1)] : List Value).toArray s 0 0 (zt_A G)) (F0 m 0 ls [])
  have fl32 := hts (.fieldLink RX1 32 "ZoneTree$Changes" "trial" "LZoneTree$Records;") (List.mem_cons_of_mem _ (List.mem_append_left _ (List.mem_append_left _ (List.mem_append_left _ (List.mem_append_left _ (List.mem_append_left _ (List.mem_of_getElem? (i := 0) rfl)))))))
  have fl36 := hts (.fieldLink RX1 36 "ZoneTree$Changes" "count" "I") (List.mem_cons_of_mem _ (List.mem_append_left _ (List.mem_append_left _ (List.mem_append_left _ (List.mem_append_left _ (List.mem_append_left _ (List.mem_of_getElem? (i := 1) rfl)))))))
  have fl40 := zt_Nw.use (args := ([.ref (zt_ad G 69), .ref (zt_ad G k1), .ref (zt_ad G 1)] : List Value).toArray) hE.2.2.1 (q := ("ZoneTree$Changes", 40, "ZoneTree$Zone", "records", "LZoneTree$Records;", "ZoneTree")) (List.mem_of_getElem? (i := 8) rfl)
  have inX1 : ∀ w ∈ wsX10, w ∈ wsX1_doTo := fun w h => (List.mem_cons_of_mem _ (List.mem_append_left _ (List.mem_append_left _ (List.mem_append_left _ (List.mem_append_right _ h)))))
  have inX6 : ∀ w ∈ wsX60, w ∈ wsX1_doTo := fun w h => (List.mem_cons_of_mem _ (List.mem_append_left _ (List.mem_append_left _ (List.mem_append_right _ h))))
  have B59 : ∀ (σ : zt_St) (u3 : Int32) (H : Heap) (locs : List Loc) (ls : Array Slot), f_X1_doTo_59 k1 σ u3 = some (r, σ1) → va_P (zt_D G) vwCl (zt_ww G σ) H → va_S (zt_A G) s.heap H locs → lv_has ls 4 [(0, .ref (zt_ad G 69)), (3, .int u3)] → W p l e (zt_R 4 94) s m ([.ref (zt_ad G 69), .ref (zt_ad G k1), .ref (zt_ad G 1)] : List Value).toArray below meth c H locs 0 0 (MQ below (zt_Ci G r σ1) ([.ref (zt_ad G 69), .ref (zt_ad G k1), .ref (zt_ad G 1)] : List Value).toArray s 0 0 (zt_A G)) (F0 m 59 ls []) := by
    intro σ u3 H locs ls hf hP hS hl
    unfold f_X1_doTo_59 at hf
    refine lv_aload_n hx hb dX1_doTo_59 rfl (lv_at hl 0 rfl) ?_
    refine lv_iconst (v := 0) hx hb dX1_doTo_60 (by decide) ?_
    obtain ⟨σ16, hσ16, hf⟩ := zt_lt_some hf
    refine va_put (D := zt_D G) (ci := 1) (v := .int 0) (ty := .int) (C := RX1) (T := TX1) (N := 7) hx hb hts inX1 tyX1 tyX1_ok nmX1 hown hK hP (zt_apart hE.1) hS 69 (zt_a1 (rfl : zt_kd 69 = 1)) rfl 5 (by decide) fl36 (fun _ h9 => h9) rfl (tyX1_ok 5 (by decide)) rfl rfl (Nat.le_of_ble_eq_true rfl) dX1_doTo_61 (fun H locs hP _ hS => ?_)
    rw [zt_p1_5 (rfl : zt_kd 69 = 1), ← hσ16] at hP
    refine lv_iload_n hx hb dX1_doTo_64 rfl (lv_at hl 1 rfl) ?_
    obtain ⟨g17, hf⟩ := zt_gd_some hf
    exact W.zret hx hb hr (zt_bn g17).1 (fun t ht hW => ⟨⟨_, _, rfl, (Prod.mk.inj (Option.some.inj hf)), zt_go hE hP hS zt_id ht hW⟩, hS.F ht⟩) hS.2.2 dX1_doTo_65
  have B46 : ∀ (σ : zt_St) (y0 : Int32) (H : Heap) (locs : List Loc) (ls : Array Slot), f_X1_doTo_46 k1 σ y0 = some (r, σ1) → va_P (zt_D G) vwCl (zt_ww G σ) H → va_S (zt_A G) s.heap H locs → lv_has ls 4 [(0, .ref (zt_ad G 69)), (1, .ref (zt_ad G k1))] → W p l e (zt_R 4 94) s m ([.ref (zt_ad G 69), .ref (zt_ad G k1), .ref (zt_ad G 1)] : List Value).toArray below meth c H locs 0 0 (MQ below (zt_Ci G r σ1) ([.ref (zt_ad G 69), .ref (zt_ad G k1), .ref (zt_ad G 1)] : List Value).toArray s 0 0 (zt_A G)) (F0 m 46 ls [.int y0]) := by
    intro σ y0 H locs ls hf hP hS hl
    unfold f_X1_doTo_46 at hf
    refine lv_istore_n (lv' := [(3, .int y0), (0, .ref (zt_ad G 69)), (1, .ref (zt_ad G k1))]) hx hb dX1_doTo_46 rfl hl (by decide) rfl (fun ls hl => ?_)
    refine lv_iload_n hx hb dX1_doTo_47 rfl (lv_at hl 0 rfl) ?_
    refine lv_if_eq (tgt := 59) hx hb dX1_doTo_48 (by decide) (fun c13 => ?_) (fun c13 => ?_)
    · have hf := (if_pos c13).symm.trans hf
      exact B59 σ y0 _ _ _ hf hP hS (lv_sub hl [1, 0] rfl)
    · have hf := (if_neg c13).symm.trans hf
      refine lv_aload_n hx hb dX1_doTo_51 rfl (lv_at hl 2 rfl) ?_
      refine lv_aload_n hx hb dX1_doTo_52 rfl (lv_at hl 1 rfl) ?_
      refine va_get (D := zt_D G) (ci := 1) (v := .ref (zt_ad G 75)) (C := RX1) (T := TX1) (N := 7) hx hb hts inX1 hown hK hP 69 (zt_a1 (rfl : zt_kd 69 = 1)) rfl 6 (by decide) fl32 (fun _ h9 => h9) rfl dX1_doTo_53 ?_
      obtain ⟨σ15, hvv14, hf⟩ := zt_bd_some hf
      refine va_callv (va_runV (As := [.ref (zt_ad G 75)]) (rest := []) ⟨hx, hb, hml, hown, hts⟩ (m_X6_take l G hk1 (rfl : zt_kd 75 = 3) (σ := σ) hvv14) (cwV 1 hts gX1_doTo_X6_take rfl rfl rfl zh_X6_take ⟨Nat.le_of_ble_eq_true rfl, Nat.le_of_ble_eq_true rfl⟩) ⟨zt_blind, va_recv hK hP (ci := 5) (q0 := k1) rfl (zt_a5 hk1), fun U hU hW => ⟨rfl, zt_go hE hP hS zt_id hU hW⟩⟩ rfl rfl hl.1 rfl (lv_room (Nat.le_of_ble_eq_true rfl)) dX1_doTo_56 ⟨Nat.zero_le _, Nat.zero_le _⟩) hS (fun _ _ h => h) (fun _ h => h) (fun u t H locs ht hvm hw hB _ _ hS => ?_)
      have hB : zt_B G u t := hB; rw [hw] at hB; have hP := zt_B.P hB ht
      exact B59 σ15 y0 _ _ _ hf hP hS (lv_sub hl [1, 0] rfl)
  have B45 : ∀ (σ : zt_St) (H : Heap) (locs : List Loc) (ls : Array Slot), f_X1_doTo_45 k1 σ = some (r, σ1) → va_P (zt_D G) vwCl (zt_ww G σ) H → va_S (zt_A G) s.heap H locs → lv_has ls 4 [(0, .ref (zt_ad G 69)), (1, .ref (zt_ad G k1))] → W p l e (zt_R 4 94) s m ([.ref (zt_ad G 69), .ref (zt_ad G k1), .ref (zt_ad G 1)] : List Value).toArray below meth c H locs 0 0 (MQ below (zt_Ci G r σ1) ([.ref (zt_ad G 69), .ref (zt_ad G k1), .ref (zt_ad G 1)] : List Value).toArray s 0 0 (zt_A G)) (F0 m 45 ls []) := by
    intro σ H locs ls hf hP hS hl
    unfold f_X1_doTo_45 at hf
    refine lv_iconst (v := 0) hx hb dX1_doTo_45 (by decide) ?_
    exact B46 σ 0 _ _ _ hf hP hS (lv_sub hl [0, 1] rfl)
  unfold f_X1_doTo at hf
  refine lv_aload_n hx hb dX1_doTo_0 rfl (lv_at hl 0 rfl) ?_
  refine va_get (D := zt_D G) (ci := 1) (v := .ref (zt_ad G 75)) (C := RX1) (T := TX1) (N := 7) hx hb hts inX1 hown hK hP 69 (zt_a1 (rfl : zt_kd 69 = 1)) rfl 6 (by decide) fl32 (fun _ h9 => h9) rfl dX1_doTo_1 ?_
  refine lv_aload_n hx hb dX1_doTo_4 rfl (lv_at hl 1 rfl) ?_
  refine va_getN (D := zt_D G) (ci := 5) (v := .ref (zt_ad G (k1 + 1))) (C := RX6) (T := TX6) (N := 11) hx hb hts inX6 hown hK hP k1 (zt_a5 hk1) rfl 9 (by decide) fl40 (fun _ h9 => h9) rfl dX1_doTo_5 ?_
  obtain ⟨σ2, hvv1, hf⟩ := zt_bd_some hf
  refine va_callv (va_runV (As := [.ref (zt_ad G (k1 + 1))]) (rest := []) ⟨hx, hb, hml, hown, hts⟩ (m_X4_become l G (rfl : zt_kd 75 = 3) (zt_k5_9 hk1) (σ := σ) hvv1) (cwV 1 hts gX1_doTo_X4_become rfl rfl rfl zh_X4_become ⟨Nat.le_of_ble_eq_true rfl, Nat.le_of_ble_eq_true rfl⟩) ⟨zt_blind, va_recv hK hP (ci := 3) (q0 := 75) rfl (zt_a3 (rfl : zt_kd 75 = 3)), fun U hU hW => ⟨rfl, zt_go hE hP hS zt_id hU hW⟩⟩ rfl rfl hl.1 rfl (lv_room (Nat.le_of_ble_eq_true rfl)) dX1_doTo_8 ⟨Nat.zero_le _, Nat.zero_le _⟩) hS (fun _ _ h => h) (fun _ h => h) (fun u t H locs ht hvm hw hB _ _ hS => ?_)
  have hB : zt_B G u t := hB; rw [hw] at hB; have hP := zt_B.P hB ht
  refine lv_aload_n hx hb dX1_doTo_11 rfl (lv_at hl 0 rfl) ?_
  refine lv_aload_n hx hb dX1_doTo_12 rfl (lv_at hl 1 rfl) ?_
  refine va_getN (D := zt_D G) (ci := 5) (v := .ref (zt_ad G (k1 + 1))) (C := RX6) (T := TX6) (N := 11) hx hb hts inX6 hown hK hP k1 (zt_a5 hk1) rfl 9 (by decide) fl40 (fun _ h9 => h9) rfl dX1_doTo_13 ?_
  obtain ⟨v3, hvv3, hf⟩ := zt_bd_some hf
  refine va_calli (va_runV (As := [.ref (zt_ad G (k1 + 1))]) (rest := []) ⟨hx, hb, hml, hown, hts⟩ (m_X1_areMet l G (zt_k5_9 hk1) (σ := σ2) hvv3) (cwV 1 hts gX1_doTo_X1_areMet rfl rfl rfl zh_X1_areMet ⟨Nat.le_of_ble_eq_true rfl, Nat.le_of_ble_eq_true rfl⟩) ⟨zt_blind, va_recv hK hP (ci := 1) (q0 := 69) rfl (zt_a1 (rfl : zt_kd 69 = 1)), fun U hU hW => ⟨rfl, zt_go hE hP hS zt_id hU hW⟩⟩ rfl rfl hl.1 rfl (lv_room (Nat.le_of_ble_eq_true rfl)) dX1_doTo_16 ⟨Nat.zero_le _, Nat.zero_le _⟩) hS (fun _ _ h => h) (fun _ h => h) (fun r u t H locs ht hvm hw hB _ _ hS => ?_)
  rw [hw.1]; have hB : zt_B G u t := hB; rw [hw.2] at hB; have hP := zt_B.P hB ht
  refine lv_if_eq (tgt := 45) hx hb dX1_doTo_19 (by decide) (fun c5 => ?_) (fun c5 => ?_)
  · have hf := (if_pos c5).symm.trans hf
    exact B45 σ2 _ _ _ hf hP hS (lv_sub hl [0, 1] rfl)
  · have hf := (if_neg c5).symm.trans hf
    refine lv_aload_n hx hb dX1_doTo_22 rfl (lv_at hl 0 rfl) ?_
    obtain ⟨⟨v6a, σ7a⟩, hvv6, hf⟩ := zt_bd_some hf
    obtain ⟨v6, hv6, hf⟩ := zt_lt_some hf; obtain ⟨σ7, hσ7, hf⟩ := zt_lt_some hf; rw [show (v6a, σ7a) = (v6, σ7) from by rw [hv6, hσ7]] at hvv6
    refine va_calli (va_runV (As := []) (rest := []) ⟨hx, hb, hml, hown, hts⟩ (m_X1_areMade l G (σ := σ2) hvv6) (cwV 0 hts gX1_doTo_X1_areMade rfl rfl rfl zh_X1_areMade ⟨Nat.le_of_ble_eq_true rfl, Nat.le_of_ble_eq_true rfl⟩) ⟨zt_blind, va_recv hK hP (ci := 1) (q0 := 69) rfl (zt_a1 (rfl : zt_kd 69 = 1)), fun U hU hW => ⟨rfl, zt_go hE hP hS zt_id hU hW⟩⟩ rfl rfl hl.1 rfl (lv_room (Nat.le_of_ble_eq_true rfl)) dX1_doTo_23 ⟨Nat.zero_le _, Nat.zero_le _⟩) hS (fun _ _ h => h) (fun _ h => h) (fun r u t H locs ht hvm hw hB _ _ hS => ?_)
    rw [hw.1]; have hB : zt_B G u t := hB; rw [hw.2] at hB; have hP := zt_B.P hB ht
    refine lv_if_eq (tgt := 45) hx hb dX1_doTo_26 (by decide) (fun c9 => ?_) (fun c9 => ?_)
    · have hf := (if_pos c9).symm.trans hf
      exact B45 σ7 _ _ _ hf hP hS (lv_sub hl [0, 1] rfl)
    · have hf := (if_neg c9).symm.trans hf
      refine lv_aload_n hx hb dX1_doTo_29 rfl (lv_at hl 1 rfl) ?_
      refine lv_aload_n hx hb dX1_doTo_30 rfl (lv_at hl 0 rfl) ?_
      refine va_get (D := zt_D G) (ci := 1) (v := .ref (zt_ad G 75)) (C := RX1) (T := TX1) (N := 7) hx hb hts inX1 hown hK hP 69 (zt_a1 (rfl : zt_kd 69 = 1)) rfl 6 (by decide) fl32 (fun _ h9 => h9) rfl dX1_doTo_31 ?_
      refine lv_aload_n hx hb dX1_doTo_34 rfl (lv_at hl 2 rfl) ?_
      obtain ⟨v10, hvv10, hf⟩ := zt_bd_some hf
      refine va_calli (va_runV (As := [.ref (zt_ad G 75), .ref (zt_ad G 1)]) (rest := []) ⟨hx, hb, hml, hown, hts⟩ (m_X6_isFit l G hk1 (rfl : zt_kd 75 = 3) (σ := σ7) hvv10) (cwV 2 hts gX1_doTo_X6_isFit rfl rfl rfl zh_X6_isFit ⟨Nat.le_of_ble_eq_true rfl, Nat.le_of_ble_eq_true rfl⟩) ⟨zt_blind, va_recv hK hP (ci := 5) (q0 := k1) rfl (zt_a5 hk1), fun U hU hW => ⟨rfl, zt_go hE hP hS zt_id hU hW⟩⟩ rfl rfl hl.1 rfl (lv_room (Nat.le_of_ble_eq_true rfl)) dX1_doTo_35 ⟨Nat.zero_le _, Nat.zero_le _⟩) hS (fun _ _ h => h) (fun _ h => h) (fun r u t H locs ht hvm hw hB _ _ hS => ?_)
      rw [hw.1]; have hB : zt_B G u t := hB; rw [hw.2] at hB; have hP := zt_B.P hB ht
      refine lv_if_eq (tgt := 45) hx hb dX1_doTo_38 (by decide) (fun c12 => ?_) (fun c12 => ?_)
      · have hf := (if_pos c12).symm.trans hf
        exact B45 σ7 _ _ _ hf hP hS (lv_sub hl [0, 1] rfl)
      · have hf := (if_neg c12).symm.trans hf
        refine lv_iconst (v := 1) hx hb dX1_doTo_41 (by decide) ?_
        refine lv_goto (tgt := 46) hx hb dX1_doTo_42 (by decide) ?_
        exact B46 σ7 1 _ _ _ hf hP hS (lv_sub hl [0, 1] rfl)

theorem zh_X6_numberOfKey : yX6_numberOfKey.cls ≠ "java/lang/invoke/MethodHandle" ∧ yX6_numberOfKey.cls ≠ "java/lang/invoke/VarHandle" ∧ (parseMethodDescriptor yX6_numberOfKey.desc).map (fun d => d.parameters.length) = some 1 := by decide +kernel
set_option maxHeartbeats 4000000 in
set_option maxRecDepth 100000 in
theorem m_X6_numberOfKey (l : Launch) (G : zt_G) {σ : zt_St} {x0 : Int32} {r : Int32} (hf : f_X6_numberOfKey x0 = some r) : zt_Mi l G yX6_numberOfKey wsX6_numberOfKey 0 0 [.int x0] σ r σ := by
  refine Met.ofW (cc := cX6_numberOfKey) (maxL := 1) (ret := (some .int)) (by decide) rfl ?_
  intro p e s m args below meth c s₁ B hml hv
  obtain ⟨rfl, hBB⟩ := hv
  have hE := zt_B.env hBB; have hK := hE.2.1; have hP := hBB.2.1
  have hx := B.exec; have hb := B.bytes; have hr := B.returns; have hts := atoms_spec (ws := wsX6_numberOfKey) B.pre
  have hown : s.vm.findClass RX6 = some m.cls := findClass_of_methodNamed B.named
  have hlocks := B.notSynchronized
  have hS : va_S (zt_A G) s.heap s.heap [] := va_S.rf
  have hl := lv_entry ([.int x0]) (n := 1) (Nat.le_of_ble_eq_true rfl)
  rw [lg_entry_eq]
  generalize (lg_sl ([.int x0]) ++ List.replicate (1 - (lg_sl ([.int x0])).length) Slot.unset).toArray = ls at hl ⊢
  have hl : lv_has ls 1 [(0, .int x0)] := hl
  show W p l e (zt_R 0 0) s m ([.int x0] : List Value).toArray below meth c s.heap [] 0 0 (MQ below (zt_Ci G r σ) ([.int x0] : List Value).toArray s 0 0 (zt_A G)) (F0 m 0 ls [])
  unfold f_X6_numberOfKey at hf
  refine lv_iload_n hx hb dX6_numberOfKey_0 rfl (lv_at hl 0 rfl) ?_
  refine lv_bipush (v := 31) hx hb dX6_numberOfKey_1 (by decide +kernel) ?_
  refine lv_imul hx hb dX6_numberOfKey_3 ?_
  refine lv_bipush (v := 7) hx hb dX6_numberOfKey_4 (by decide +kernel) ?_
  refine lv_iadd hx hb dX6_numberOfKey_6 ?_
  refine lv_sipush (v := 997) hx hb dX6_numberOfKey_7 (by decide +kernel) ?_
  refine lv_irem hx hb dX6_numberOfKey_10 (by decide) ?_
  exact W.iret hx hb hr (fun t ht hW => ⟨⟨_, _, rfl, ⟨Option.some.inj hf, rfl⟩, zt_go hE hP hS zt_id ht hW⟩, hS.F ht⟩) hS.2.2 dX6_numberOfKey_11

theorem zh_X6_isKeyFor : yX6_isKeyFor.cls ≠ "java/lang/invoke/MethodHandle" ∧ yX6_isKeyFor.cls ≠ "java/lang/invoke/VarHandle" ∧ (parseMethodDescriptor yX6_isKeyFor.desc).map (fun d => d.parameters.length) = some 2 := by decide +kernel
set_option maxHeartbeats 4000000 in
set_option maxRecDepth 100000 in
theorem m_X6_isKeyFor (l : Launch) (G : zt_G) {σ : zt_St} {x0 : Int32} {x1 : Int32} {r : Int32} (hf : f_X6_isKeyFor x0 x1 = some r) : zt_Mi l G yX6_isKeyFor wsX6_isKeyFor 1 20 [.int x0, .int x1] σ r σ := by
  refine Met.ofW (cc := cX6_isKeyFor) (maxL := 2) (ret := (some .boolean)) (by decide) rfl ?_
  intro p e s m args below meth c s₁ B hml hv
  obtain ⟨rfl, hBB⟩ := hv
  have hE := zt_B.env hBB; have hK := hE.2.1; have hP := hBB.2.1
  have hx := B.exec; have hb := B.bytes; have hr := B.returns; have hts := atoms_spec (ws := wsX6_isKeyFor) B.pre
  have hown : s.vm.findClass RX6 = some m.cls := findClass_of_methodNamed B.named
  have hlocks := B.notSynchronized
  have hS : va_S (zt_A G) s.heap s.heap [] := va_S.rf
  have hl := lv_entry ([.int x0, .int x1]) (n := 2) (Nat.le_of_ble_eq_true rfl)
  rw [lg_entry_eq]
  generalize (lg_sl ([.int x0, .int x1]) ++ List.replicate (2 - (lg_sl ([.int x0, .int x1])).length) Slot.unset).toArray = ls at hl ⊢
  have hl : lv_has ls 2 [(0, .int x0), (1, .int x1)] := hl
  show W p l e (zt_R 1 20) s m ([.int x0, .int x1] : List Value).toArray below meth c s.heap [] 0 0 (MQ below (zt_Ci G r σ) ([.int x0, .int x1] : List Value).toArray s 0 0 (zt_A G)) (F0 m 0 ls [])
  unfold f_X6_isKeyFor at hf
  refine lv_iload_n hx hb dX6_isKeyFor_0 rfl (lv_at hl 0 rfl) ?_
  refine lv_iconst (v := (-1)) hx hb dX6_isKeyFor_1 (by decide) ?_
  refine lv_icmp_eq (tgt := 17) hx hb dX6_isKeyFor_2 (by decide) (fun c1 => ?_) (fun c1 => ?_)
  · have hf := (if_pos c1).symm.trans hf
    refine lv_iconst (v := 0) hx hb dX6_isKeyFor_17 (by decide) ?_
    exact W.zret hx hb hr (zt_bn (by decide)).1 (fun t ht hW => ⟨⟨_, _, rfl, ⟨Option.some.inj hf, rfl⟩, zt_go hE hP hS zt_id ht hW⟩, hS.F ht⟩) hS.2.2 dX6_isKeyFor_18
  · have hf := (if_neg c1).symm.trans hf
    refine lv_iload_n hx hb dX6_isKeyFor_5 rfl (lv_at hl 0 rfl) ?_
    obtain ⟨v2, hvv2, hf⟩ := zt_bd_some hf
    refine va_calli (va_runS (As := [.int x0]) (rest := []) ⟨hx, hb, hml, hown, hts⟩ (m_X6_numberOfKey l G (σ := σ) hvv2) (va_cwS 1 hts gX6_isKeyFor_X6_numberOfKey rfl rfl rfl zh_X6_numberOfKey ⟨Nat.le_of_ble_eq_true rfl, Nat.le_of_ble_eq_true rfl⟩) ⟨zt_blind, fun U hU hW => ⟨rfl, zt_go hE hP hS zt_id hU hW⟩⟩ rfl rfl hl.1 rfl (lv_room (Nat.le_of_ble_eq_true rfl)) dX6_isKeyFor_6 ⟨Nat.zero_le _, Nat.zero_le _⟩) hS (fun _ _ h => h) (fun _ h => h) (fun r u t H locs ht hvm hw hB _ _ hS => ?_)
    rw [hw.1]; have hB : zt_B G u t := hB; rw [hw.2] at hB; have hP := zt_B.P hB ht
    refine lv_iload_n hx hb dX6_isKeyFor_9 rfl (lv_at hl 1 rfl) ?_
    refine lv_icmp_ne (tgt := 17) hx hb dX6_isKeyFor_10 (by decide) (fun c4 => ?_) (fun c4 => ?_)
    · have hf := (if_neg c4).symm.trans hf
      refine lv_iconst (v := 0) hx hb dX6_isKeyFor_17 (by decide) ?_
      exact W.zret hx hb hr (zt_bn (by decide)).1 (fun t ht hW => ⟨⟨_, _, rfl, ⟨Option.some.inj hf, rfl⟩, zt_go hE hP hS zt_id ht hW⟩, hS.F ht⟩) hS.2.2 dX6_isKeyFor_18
    · have hf := (if_pos c4).symm.trans hf
      refine lv_iconst (v := 1) hx hb dX6_isKeyFor_13 (by decide) ?_
      refine lv_goto (tgt := 18) hx hb dX6_isKeyFor_14 (by decide) ?_
      exact W.zret hx hb hr (zt_bn (by decide)).1 (fun t ht hW => ⟨⟨_, _, rfl, ⟨Option.some.inj hf, rfl⟩, zt_go hE hP hS zt_id ht hW⟩, hS.F ht⟩) hS.2.2 dX6_isKeyFor_18

theorem zh_X6_isGoodFor : yX6_isGoodFor.cls = RX6 ∧ yX6_isGoodFor.cls ≠ "java/lang/invoke/MethodHandle" ∧ yX6_isGoodFor.cls ≠ "java/lang/invoke/VarHandle" ∧ (parseMethodDescriptor yX6_isGoodFor.desc).map (fun d => d.parameters.length) = some 2 := by decide +kernel
set_option maxHeartbeats 4000000 in
set_option maxRecDepth 100000 in
theorem m_X6_isGoodFor (l : Launch) (G : zt_G) {σ : zt_St} {k0 : Nat} (hk0 : zt_kd k0 = 5) {x1 : Int32} {x2 : Int32} {r : Int32} (hf : f_X6_isGoodFor σ k0 x1 x2 = some r) : zt_Mi l G yX6_isGoodFor wsX6_isGoodFor 2 41 [.ref (zt_ad G k0), .int x1, .int x2] σ r σ := by
  refine Met.ofW (cc := cX6_isGoodFor) (maxL := 4) (ret := (some .boolean)) (by decide) rfl ?_
  intro p e s m args below meth c s₁ B hml hv
  obtain ⟨rfl, hBB⟩ := hv
  have hE := zt_B.env hBB; have hK := hE.2.1; have hP := hBB.2.1
  have hx := B.exec; have hb := B.bytes; have hr := B.returns; have hts := atoms_spec (ws := wsX6_isGoodFor) B.pre
  have hown : s.vm.findClass RX6 = some m.cls := findClass_of_methodNamed B.named
  have hlocks := B.notSynchronized
  have hS : va_S (zt_A G) s.heap s.heap [] := va_S.rf
  have hl := lv_entry ([.ref (zt_ad G k0), .int x1, .int x2]) (n := 4) (Nat.le_of_ble_eq_true rfl)
  rw [lg_entry_eq]
  generalize (lg_sl ([.ref (zt_ad G k0), .int x1, .int x2]) ++ List.replicate (4 - (lg_sl ([.ref (zt_ad G k0), .int x1, .int x2])).length) Slot.unset).toArray = ls at hl ⊢
  have hl : lv_has ls 4 [(0, .ref (zt_ad G k0)), (1, .int x1), (2, .int x2)] := hl
  show W p l e (zt_R 2 41) s m ([.ref (zt_ad G k0), .int x1, .int x2] : List Value).toArray below meth c s.heap [] 0 0 (MQ below (zt_Ci G r σ) ([.ref (zt_ad G k0), .int x1, .int x2] : List Value).toArray s 0 0 (zt_A G)) (F0 m 0 ls [])
  have fl15 := hts (.fieldLink RX6 15 "ZoneTree$Zone" "firstKey" "I") (List.mem_cons_of_mem _ (List.mem_append_left _ (List.mem_of_getElem? (i := 2) rfl)))
  have fl18 := hts (.fieldLink RX6 18 "ZoneTree$Zone" "secondKey" "I") (List.mem_cons_of_mem _ (List.mem_append_left _ (List.mem_of_getElem? (i := 3) rfl)))
  have fl165 := hts (.fieldLink RX6 165 "ZoneTree$Zone" "windowFrom" "I") (List.mem_cons_of_mem _ (List.mem_append_left _ (List.mem_of_getElem? (i := 0) rfl)))
  have fl168 := hts (.fieldLink RX6 168 "ZoneTree$Zone" "windowTo" "I") (List.mem_cons_of_mem _ (List.mem_append_left _ (List.mem_of_getElem? (i := 1) rfl)))
  have inX6 : ∀ w ∈ wsX60, w ∈ wsX6_isGoodFor := fun w h => (List.mem_cons_of_mem _ (List.mem_append_right _ h))
  have B48 : ∀ (H : Heap) (locs : List Loc) (ls : Array Slot), f_X6_isGoodFor_48 σ k0 = some r → va_P (zt_D G) vwCl (zt_ww G σ) H → va_S (zt_A G) s.heap H locs → lv_has ls 4 [] → W p l e (zt_R 2 41) s m ([.ref (zt_ad G k0), .int x1, .int x2] : List Value).toArray below meth c H locs 0 0 (MQ below (zt_Ci G r σ) ([.ref (zt_ad G k0), .int x1, .int x2] : List Value).toArray s 0 0 (zt_A G)) (F0 m 48 ls []) := by
    intro H locs ls hf hP hS hl
    unfold f_X6_isGoodFor_48 at hf
    refine lv_iconst (v := 1) hx hb dX6_isGoodFor_48 (by decide) ?_
    refine lv_goto (tgt := 53) hx hb dX6_isGoodFor_49 (by decide) ?_
    exact W.zret hx hb hr (zt_bn (by decide)).1 (fun t ht hW => ⟨⟨_, _, rfl, ⟨Option.some.inj hf, rfl⟩, zt_go hE hP hS zt_id ht hW⟩, hS.F ht⟩) hS.2.2 dX6_isGoodFor_53
  have B21 : ∀ (y0 : Int32) (u1 : Int32) (H : Heap) (locs : List Loc) (ls : Array Slot), f_X6_isGoodFor_21 σ k0 y0 u1 = some r → va_P (zt_D G) vwCl (zt_ww G σ) H → va_S (zt_A G) s.heap H locs → lv_has ls 4 [(0, .ref (zt_ad G k0)), (1, .int u1)] → W p l e (zt_R 2 41) s m ([.ref (zt_ad G k0), .int x1, .int x2] : List Value).toArray below meth c H locs 0 0 (MQ below (zt_Ci G r σ) ([.ref (zt_ad G k0), .int x1, .int x2] : List Value).toArray s 0 0 (zt_A G)) (F0 m 21 ls [.int y0]) := by
    intro y0 u1 H locs ls hf hP hS hl
    unfold f_X6_isGoodFor_21 at hf
    refine lv_istore_n (lv' := [(3, .int y0), (0, .ref (zt_ad G k0)), (1, .int u1)]) hx hb dX6_isGoodFor_21 rfl hl (by decide) rfl (fun ls hl => ?_)
    refine lv_iload_n hx hb dX6_isGoodFor_22 rfl (lv_at hl 0 rfl) ?_
    refine lv_if_eq (tgt := 52) hx hb dX6_isGoodFor_23 (by decide) (fun c3 => ?_) (fun c3 => ?_)
    · have hf := (if_pos c3).symm.trans hf
      refine lv_iconst (v := 0) hx hb dX6_isGoodFor_52 (by decide) ?_
      exact W.zret hx hb hr (zt_bn (by decide)).1 (fun t ht hW => ⟨⟨_, _, rfl, ⟨Option.some.inj hf, rfl⟩, zt_go hE hP hS zt_id ht hW⟩, hS.F ht⟩) hS.2.2 dX6_isGoodFor_53
    · have hf := (if_neg c3).symm.trans hf
      refine lv_aload_n hx hb dX6_isGoodFor_26 rfl (lv_at hl 1 rfl) ?_
      refine va_get (D := zt_D G) (ci := 5) (v := .int (σ k0 5)) (C := RX6) (T := TX6) (N := 11) hx hb hts inX6 hown hK hP k0 (zt_a5 hk0) rfl 5 (by decide) fl15 (fun _ h9 => h9) rfl dX6_isGoodFor_27 ?_
      refine lv_iload_n hx hb dX6_isGoodFor_30 rfl (lv_at hl 2 rfl) ?_
      obtain ⟨v4, hvv4, hf⟩ := zt_bd_some hf
      refine va_calli (va_runS (As := [.int (σ k0 5), .int u1]) (rest := []) ⟨hx, hb, hml, hown, hts⟩ (m_X6_isKeyFor l G (σ := σ) hvv4) (va_cwS 2 hts gX6_isGoodFor_X6_isKeyFor rfl rfl rfl zh_X6_isKeyFor ⟨Nat.le_of_ble_eq_true rfl, Nat.le_of_ble_eq_true rfl⟩) ⟨zt_blind, fun U hU hW => ⟨rfl, zt_go hE hP hS zt_id hU hW⟩⟩ rfl rfl hl.1 rfl (lv_room (Nat.le_of_ble_eq_true rfl)) dX6_isGoodFor_31 ⟨Nat.zero_le _, Nat.zero_le _⟩) hS (fun _ _ h => h) (fun _ h => h) (fun r u t H locs ht hvm hw hB _ _ hS => ?_)
      rw [hw.1]; have hB : zt_B G u t := hB; rw [hw.2] at hB; have hP := zt_B.P hB ht
      refine lv_if_ne (tgt := 48) hx hb dX6_isGoodFor_34 (by decide) (fun c6 => ?_) (fun c6 => ?_)
      · have hf := (if_neg c6).symm.trans hf
        exact B48 _ _ _ hf hP hS (lv_sub hl [] rfl)
      · have hf := (if_pos c6).symm.trans hf
        refine lv_aload_n hx hb dX6_isGoodFor_37 rfl (lv_at hl 1 rfl) ?_
        refine va_get (D := zt_D G) (ci := 5) (v := .int (σ k0 6)) (C := RX6) (T := TX6) (N := 11) hx hb hts inX6 hown hK hP k0 (zt_a5 hk0) rfl 6 (by decide) fl18 (fun _ h9 => h9) rfl dX6_isGoodFor_38 ?_
        refine lv_iload_n hx hb dX6_isGoodFor_41 rfl (lv_at hl 2 rfl) ?_
        obtain ⟨v7, hvv7, hf⟩ := zt_bd_some hf
        refine va_calli (va_runS (As := [.int (σ k0 6), .int u1]) (rest := []) ⟨hx, hb, hml, hown, hts⟩ (m_X6_isKeyFor l G (σ := σ) hvv7) (va_cwS 2 hts gX6_isGoodFor_X6_isKeyFor rfl rfl rfl zh_X6_isKeyFor ⟨Nat.le_of_ble_eq_true rfl, Nat.le_of_ble_eq_true rfl⟩) ⟨zt_blind, fun U hU hW => ⟨rfl, zt_go hE hP hS zt_id hU hW⟩⟩ rfl rfl hl.1 rfl (lv_room (Nat.le_of_ble_eq_true rfl)) dX6_isGoodFor_42 ⟨Nat.zero_le _, Nat.zero_le _⟩) hS (fun _ _ h => h) (fun _ h => h) (fun r u t H locs ht hvm hw hB _ _ hS => ?_)
        rw [hw.1]; have hB : zt_B G u t := hB; rw [hw.2] at hB; have hP := zt_B.P hB ht
        refine lv_if_eq (tgt := 52) hx hb dX6_isGoodFor_45 (by decide) (fun c9 => ?_) (fun c9 => ?_)
        · have hf := (if_pos c9).symm.trans hf
          refine lv_iconst (v := 0) hx hb dX6_isGoodFor_52 (by decide) ?_
          exact W.zret hx hb hr (zt_bn (by decide)).1 (fun t ht hW => ⟨⟨_, _, rfl, ⟨Option.some.inj hf, rfl⟩, zt_go hE hP hS zt_id ht hW⟩, hS.F ht⟩) hS.2.2 dX6_isGoodFor_53
        · have hf := (if_neg c9).symm.trans hf
          exact B48 _ _ _ hf hP hS (lv_sub hl [] rfl)
  have B20 : ∀ (u1 : Int32) (H : Heap) (locs : List Loc) (ls : Array Slot), f_X6_isGoodFor_20 σ k0 u1 = some r → va_P (zt_D G) vwCl (zt_ww G σ) H → va_S (zt_A G) s.heap H locs → lv_has ls 4 [(0, .ref (zt_ad G k0)), (1, .int u1)] → W p l e (zt_R 2 41) s m ([.ref (zt_ad G k0), .int x1, .int x2] : List Value).toArray below meth c H locs 0 0 (MQ below (zt_Ci G r σ) ([.ref (zt_ad G k0), .int x1, .int x2] : List Value).toArray s 0 0 (zt_A G)) (F0 m 20 ls []) := by
    intro u1 H locs ls hf hP hS hl
    unfold f_X6_isGoodFor_20 at hf
    refine lv_iconst (v := 0) hx hb dX6_isGoodFor_20 (by decide) ?_
    exact B21 0 u1 _ _ _ hf hP hS (lv_sub hl [0, 1] rfl)
  unfold f_X6_isGoodFor at hf
  refine lv_iload_n hx hb dX6_isGoodFor_0 rfl (lv_at hl 2 rfl) ?_
  refine lv_aload_n hx hb dX6_isGoodFor_1 rfl (lv_at hl 0 rfl) ?_
  refine va_get (D := zt_D G) (ci := 5) (v := .int (σ k0 7)) (C := RX6) (T := TX6) (N := 11) hx hb hts inX6 hown hK hP k0 (zt_a5 hk0) rfl 7 (by decide) fl165 (fun _ h9 => h9) rfl dX6_isGoodFor_2 ?_
  refine lv_icmp_lt (tgt := 20) hx hb dX6_isGoodFor_5 (by decide) (fun c1 => ?_) (fun c1 => ?_)
  · have hf := (if_pos c1).symm.trans hf
    exact B20 x1 _ _ _ hf hP hS (lv_sub hl [0, 1] rfl)
  · have hf := (if_neg c1).symm.trans hf
    refine lv_iload_n hx hb dX6_isGoodFor_8 rfl (lv_at hl 2 rfl) ?_
    refine lv_aload_n hx hb dX6_isGoodFor_9 rfl (lv_at hl 0 rfl) ?_
    refine va_get (D := zt_D G) (ci := 5) (v := .int (σ k0 8)) (C := RX6) (T := TX6) (N := 11) hx hb hts inX6 hown hK hP k0 (zt_a5 hk0) rfl 8 (by decide) fl168 (fun _ h9 => h9) rfl dX6_isGoodFor_10 ?_
    refine lv_icmp_gt (tgt := 20) hx hb dX6_isGoodFor_13 (by decide) (fun c2 => ?_) (fun c2 => ?_)
    · have hf := (if_pos c2).symm.trans hf
      exact B20 x1 _ _ _ hf hP hS (lv_sub hl [0, 1] rfl)
    · have hf := (if_neg c2).symm.trans hf
      refine lv_iconst (v := 1) hx hb dX6_isGoodFor_16 (by decide) ?_
      refine lv_goto (tgt := 21) hx hb dX6_isGoodFor_17 (by decide) ?_
      exact B21 1 x1 _ _ _ hf hP hS (lv_sub hl [0, 1] rfl)

theorem zh_X6_isAnswering : yX6_isAnswering.cls = RX6 ∧ yX6_isAnswering.cls ≠ "java/lang/invoke/MethodHandle" ∧ yX6_isAnswering.cls ≠ "java/lang/invoke/VarHandle" ∧ (parseMethodDescriptor yX6_isAnswering.desc).map (fun d => d.parameters.length) = some 0 := by decide +kernel
set_option maxHeartbeats 4000000 in
set_option maxRecDepth 100000 in
theorem m_X6_isAnswering (l : Launch) (G : zt_G) {σ : zt_St} {k0 : Nat} (hk0 : zt_kd k0 = 5) {r : Int32} (hf : f_X6_isAnswering σ k0 = some r) : zt_Mi l G yX6_isAnswering wsX6_isAnswering 0 0 [.ref (zt_ad G k0)] σ r σ := by
  refine Met.ofW (cc := cX6_isAnswering) (maxL := 1) (ret := (some .boolean)) (by decide) rfl ?_
  intro p e s m args below meth c s₁ B hml hv
  obtain ⟨rfl, hBB⟩ := hv
  have hE := zt_B.env hBB; have hK := hE.2.1; have hP := hBB.2.1
  have hx := B.exec; have hb := B.bytes; have hr := B.returns; have hts := atoms_spec (ws := wsX6_isAnswering) B.pre
  have hown : s.vm.findClass RX6 = some m.cls := findClass_of_methodNamed B.named
  have hlocks := B.notSynchronized
  have hS : va_S (zt_A G) s.heap s.heap [] := va_S.rf
  have hl := lv_entry ([.ref (zt_ad G k0)]) (n := 1) (Nat.le_of_ble_eq_true rfl)
  rw [lg_entry_eq]
  generalize (lg_sl ([.ref (zt_ad G k0)]) ++ List.replicate (1 - (lg_sl ([.ref (zt_ad G k0)])).length) Slot.unset).toArray = ls at hl ⊢
  have hl : lv_has ls 1 [(0, .ref (zt_ad G k0))] := hl
  show W p l e (zt_R 0 0) s m ([.ref (zt_ad G k0)] : List Value).toArray below meth c s.heap [] 0 0 (MQ below (zt_Ci G r σ) ([.ref (zt_ad G k0)] : List Value).toArray s 0 0 (zt_A G)) (F0 m 0 ls [])
  have fl9 := hts (.fieldLink RX6 9 "ZoneTree$Zone" "copySerial" "I") (List.mem_cons_of_mem _ (List.mem_append_left _ (List.mem_of_getElem? (i := 1) rfl)))
  have fl112 := hts (.fieldLink RX6 112 "ZoneTree$Zone" "isDead" "Z") (List.mem_cons_of_mem _ (List.mem_append_left _ (List.mem_of_getElem? (i := 0) rfl)))
  have inX6 : ∀ w ∈ wsX60, w ∈ wsX6_isAnswering := fun w h => (List.mem_cons_of_mem _ (List.mem_append_right _ h))
  have B15 : ∀ (H : Heap) (locs : List Loc) (ls : Array Slot), f_X6_isAnswering_15 σ k0 = some r → va_P (zt_D G) vwCl (zt_ww G σ) H → va_S (zt_A G) s.heap H locs → lv_has ls 1 [] → W p l e (zt_R 0 0) s m ([.ref (zt_ad G k0)] : List Value).toArray below meth c H locs 0 0 (MQ below (zt_Ci G r σ) ([.ref (zt_ad G k0)] : List Value).toArray s 0 0 (zt_A G)) (F0 m 15 ls []) := by
    intro H locs ls hf hP hS hl
    unfold f_X6_isAnswering_15 at hf
    refine lv_iconst (v := 1) hx hb dX6_isAnswering_15 (by decide) ?_
    refine lv_goto (tgt := 20) hx hb dX6_isAnswering_16 (by decide) ?_
    exact W.zret hx hb hr (zt_bn (by decide)).1 (fun t ht hW => ⟨⟨_, _, rfl, ⟨Option.some.inj hf, rfl⟩, zt_go hE hP hS zt_id ht hW⟩, hS.F ht⟩) hS.2.2 dX6_isAnswering_20
  unfold f_X6_isAnswering at hf
  refine lv_aload_n hx hb dX6_isAnswering_0 rfl (lv_at hl 0 rfl) ?_
  refine va_get (D := zt_D G) (ci := 5) (v := .int (σ k0 4)) (C := RX6) (T := TX6) (N := 11) hx hb hts inX6 hown hK hP k0 (zt_a5 hk0) rfl 4 (by decide) fl112 (fun _ h9 => h9) rfl dX6_isAnswering_1 ?_
  refine lv_if_eq (tgt := 15) hx hb dX6_isAnswering_4 (by decide) (fun c1 => ?_) (fun c1 => ?_)
  · have hf := (if_pos c1).symm.trans hf
    exact B15 _ _ _ hf hP hS (lv_sub hl [] rfl)
  · have hf := (if_neg c1).symm.trans hf
    refine lv_aload_n hx hb dX6_isAnswering_7 rfl (lv_at hl 0 rfl) ?_
    refine va_get (D := zt_D G) (ci := 5) (v := .int (σ k0 3)) (C := RX6) (T := TX6) (N := 11) hx hb hts inX6 hown hK hP k0 (zt_a5 hk0) rfl 3 (by decide) fl9 (fun _ h9 => h9) rfl dX6_isAnswering_8 ?_
    refine lv_iconst (v := (-1)) hx hb dX6_isAnswering_11 (by decide) ?_
    refine lv_icmp_eq (tgt := 19) hx hb dX6_isAnswering_12 (by decide) (fun c2 => ?_) (fun c2 => ?_)
    · have hf := (if_pos c2).symm.trans hf
      refine lv_iconst (v := 0) hx hb dX6_isAnswering_19 (by decide) ?_
      exact W.zret hx hb hr (zt_bn (by decide)).1 (fun t ht hW => ⟨⟨_, _, rfl, ⟨Option.some.inj hf, rfl⟩, zt_go hE hP hS zt_id ht hW⟩, hS.F ht⟩) hS.2.2 dX6_isAnswering_20
    · have hf := (if_neg c2).symm.trans hf
      exact B15 _ _ _ hf hP hS (lv_sub hl [] rfl)

theorem zh_X6_answering : yX6_answering.cls = RX6 ∧ yX6_answering.cls ≠ "java/lang/invoke/MethodHandle" ∧ yX6_answering.cls ≠ "java/lang/invoke/VarHandle" ∧ (parseMethodDescriptor yX6_answering.desc).map (fun d => d.parameters.length) = some 0 := by decide +kernel
set_option maxHeartbeats 4000000 in
set_option maxRecDepth 100000 in
theorem m_X6_answering (l : Launch) (G : zt_G) {σ : zt_St} {k0 : Nat} (hk0 : zt_kd k0 = 5) {r : Nat} (hf : f_X6_answering σ k0 = some r) : zt_Mr l G yX6_answering wsX6_answering 0 0 [.ref (zt_ad G k0)] σ r σ := by
  refine Met.ofW (cc := cX6_answering) (maxL := 1) (ret := (some (.object "ZoneTree$Records"))) (by decide) rfl ?_
  intro p e s m args below meth c s₁ B hml hv
  obtain ⟨rfl, hBB⟩ := hv
  have hE := zt_B.env hBB; have hK := hE.2.1; have hP := hBB.2.1
  have hx := B.exec; have hb := B.bytes; have hr := B.returns; have hts := atoms_spec (ws := wsX6_answering) B.pre
  have hown : s.vm.findClass RX6 = some m.cls := findClass_of_methodNamed B.named
  have hlocks := B.notSynchronized
  have hS : va_S (zt_A G) s.heap s.heap [] := va_S.rf
  have hl := lv_entry ([.ref (zt_ad G k0)]) (n := 1) (Nat.le_of_ble_eq_true rfl)
  rw [lg_entry_eq]
  generalize (lg_sl ([.ref (zt_ad G k0)]) ++ List.replicate (1 - (lg_sl ([.ref (zt_ad G k0)])).length) Slot.unset).toArray = ls at hl ⊢
  have hl : lv_has ls 1 [(0, .ref (zt_ad G k0))] := hl
  show W p l e (zt_R 0 0) s m ([.ref (zt_ad G k0)] : List Value).toArray below meth c s.heap [] 0 0 (MQ below (zt_Cr G r σ) ([.ref (zt_ad G k0)] : List Value).toArray s 0 0 (zt_A G)) (F0 m 0 ls [])
  have fl26 := hts (.fieldLink RX6 26 "ZoneTree$Zone" "records" "LZoneTree$Records;") (List.mem_cons_of_mem _ (List.mem_append_left _ (List.mem_of_getElem? (i := 2) rfl)))
  have fl30 := hts (.fieldLink RX6 30 "ZoneTree$Zone" "copy" "LZoneTree$Records;") (List.mem_cons_of_mem _ (List.mem_append_left _ (List.mem_of_getElem? (i := 1) rfl)))
  have fl112 := hts (.fieldLink RX6 112 "ZoneTree$Zone" "isDead" "Z") (List.mem_cons_of_mem _ (List.mem_append_left _ (List.mem_of_getElem? (i := 0) rfl)))
  have inX6 : ∀ w ∈ wsX60, w ∈ wsX6_answering := fun w h => (List.mem_cons_of_mem _ (List.mem_append_right _ h))
  unfold f_X6_answering at hf
  refine lv_aload_n hx hb dX6_answering_0 rfl (lv_at hl 0 rfl) ?_
  refine va_get (D := zt_D G) (ci := 5) (v := .int (σ k0 4)) (C := RX6) (T := TX6) (N := 11) hx hb hts inX6 hown hK hP k0 (zt_a5 hk0) rfl 4 (by decide) fl112 (fun _ h9 => h9) rfl dX6_answering_1 ?_
  refine lv_if_eq (tgt := 14) hx hb dX6_answering_4 (by decide) (fun c1 => ?_) (fun c1 => ?_)
  · have hf := (if_pos c1).symm.trans hf
    refine lv_aload_n hx hb dX6_answering_14 rfl (lv_at hl 0 rfl) ?_
    refine va_get (D := zt_D G) (ci := 5) (v := .ref (zt_ad G (k0 + 1))) (C := RX6) (T := TX6) (N := 11) hx hb hts inX6 hown hK hP k0 (zt_a5 hk0) rfl 9 (by decide) fl26 (fun _ h9 => h9) rfl dX6_answering_15 ?_
    exact W.aret hx hb hr (Or.inl ⟨_, rfl⟩) (Or.inr ⟨_, rfl⟩) (fun t ht hW => ⟨⟨_, _, rfl, rfl, congrArg (zt_ad G) (Option.some.inj hf), zt_go hE hP hS zt_id ht hW⟩, hS.F ht⟩) hS.2.2 dX6_answering_18
  · have hf := (if_neg c1).symm.trans hf
    refine lv_aload_n hx hb dX6_answering_7 rfl (lv_at hl 0 rfl) ?_
    refine va_get (D := zt_D G) (ci := 5) (v := .ref (zt_ad G (k0 + 6))) (C := RX6) (T := TX6) (N := 11) hx hb hts inX6 hown hK hP k0 (zt_a5 hk0) rfl 10 (by decide) fl30 (fun _ h9 => h9) rfl dX6_answering_8 ?_
    refine lv_goto (tgt := 18) hx hb dX6_answering_11 (by decide) ?_
    exact W.aret hx hb hr (Or.inl ⟨_, rfl⟩) (Or.inr ⟨_, rfl⟩) (fun t ht hW => ⟨⟨_, _, rfl, rfl, congrArg (zt_ad G) (Option.some.inj hf), zt_go hE hP hS zt_id ht hW⟩, hS.F ht⟩) hS.2.2 dX6_answering_18

theorem zh_X6_isCutOff : yX6_isCutOff.cls ≠ "java/lang/invoke/MethodHandle" ∧ yX6_isCutOff.cls ≠ "java/lang/invoke/VarHandle" ∧ (parseMethodDescriptor yX6_isCutOff.desc).map (fun d => d.parameters.length) = some 3 := by decide +kernel
set_option maxHeartbeats 4000000 in
set_option maxRecDepth 100000 in
theorem m_X6_isCutOff (l : Launch) (G : zt_G) {σ : zt_St} {k0 : Nat} (hk0 : zt_kd k0 = 3) {x1 : Int32} {x2 : Int32} {r : Int32} (hf : f_X6_isCutOff σ k0 x1 x2 = some r) : zt_Mi l G yX6_isCutOff wsX6_isCutOff 2 48 [.ref (zt_ad G k0), .int x1, .int x2] σ r σ := by
  refine Met.ofW (cc := cX6_isCutOff) (maxL := 5) (ret := (some .boolean)) (by decide) rfl ?_
  intro p e s m args below meth c s₁ B hml hv
  obtain ⟨rfl, hBB⟩ := hv
  have hE := zt_B.env hBB; have hK := hE.2.1; have hP := hBB.2.1
  have hx := B.exec; have hb := B.bytes; have hr := B.returns; have hts := atoms_spec (ws := wsX6_isCutOff) B.pre
  have hown : s.vm.findClass RX6 = some m.cls := findClass_of_methodNamed B.named
  have hlocks := B.notSynchronized
  have hS : va_S (zt_A G) s.heap s.heap [] := va_S.rf
  have hl := lv_entry ([.ref (zt_ad G k0), .int x1, .int x2]) (n := 5) (Nat.le_of_ble_eq_true rfl)
  rw [lg_entry_eq]
  generalize (lg_sl ([.ref (zt_ad G k0), .int x1, .int x2]) ++ List.replicate (5 - (lg_sl ([.ref (zt_ad G k0), .int x1, .int x2])).length) Slot.unset).toArray = ls at hl ⊢
  have hl : lv_has ls 5 [(0, .ref (zt_ad G k0)), (1, .int x1), (2, .int x2)] := hl
  show W p l e (zt_R 2 48) s m ([.ref (zt_ad G k0), .int x1, .int x2] : List Value).toArray below meth c s.heap [] 0 0 (MQ below (zt_Ci G r σ) ([.ref (zt_ad G k0), .int x1, .int x2] : List Value).toArray s 0 0 (zt_A G)) (F0 m 0 ls [])
  have B30 : ∀ (y0 : Int32) (u3 : Int32) (H : Heap) (locs : List Loc) (ls : Array Slot), f_X6_isCutOff_30 σ k0 y0 u3 = some r → va_P (zt_D G) vwCl (zt_ww G σ) H → va_S (zt_A G) s.heap H locs → lv_has ls 5 [(3, .int u3)] → W p l e (zt_R 2 48) s m ([.ref (zt_ad G k0), .int x1, .int x2] : List Value).toArray below meth c H locs 0 0 (MQ below (zt_Ci G r σ) ([.ref (zt_ad G k0), .int x1, .int x2] : List Value).toArray s 0 0 (zt_A G)) (F0 m 30 ls [.int y0]) := by
    intro y0 u3 H locs ls hf hP hS hl
    unfold f_X6_isCutOff_30 at hf
    refine lv_istore (lv' := [(4, .int y0), (3, .int u3)]) hx hb dX6_isCutOff_30 hl (by decide) rfl (fun ls hl => ?_)
    refine lv_iload_n hx hb dX6_isCutOff_32 rfl (lv_at hl 1 rfl) ?_
    refine lv_iconst (v := (-1)) hx hb dX6_isCutOff_33 (by decide) ?_
    refine lv_icmp_eq (tgt := 46) hx hb dX6_isCutOff_34 (by decide) (fun c8 => ?_) (fun c8 => ?_)
    · have hf := (if_pos c8).symm.trans hf
      refine lv_iconst (v := 0) hx hb dX6_isCutOff_46 (by decide) ?_
      exact W.zret hx hb hr (zt_bn (by decide)).1 (fun t ht hW => ⟨⟨_, _, rfl, ⟨Option.some.inj hf, rfl⟩, zt_go hE hP hS zt_id ht hW⟩, hS.F ht⟩) hS.2.2 dX6_isCutOff_47
    · have hf := (if_neg c8).symm.trans hf
      refine lv_iload hx hb dX6_isCutOff_37 (lv_at hl 0 rfl) ?_
      refine lv_if_ne (tgt := 46) hx hb dX6_isCutOff_39 (by decide) (fun c9 => ?_) (fun c9 => ?_)
      · have hf := (if_neg c9).symm.trans hf
        refine lv_iconst (v := 0) hx hb dX6_isCutOff_46 (by decide) ?_
        exact W.zret hx hb hr (zt_bn (by decide)).1 (fun t ht hW => ⟨⟨_, _, rfl, ⟨Option.some.inj hf, rfl⟩, zt_go hE hP hS zt_id ht hW⟩, hS.F ht⟩) hS.2.2 dX6_isCutOff_47
      · have hf := (if_pos c9).symm.trans hf
        refine lv_iconst (v := 1) hx hb dX6_isCutOff_42 (by decide) ?_
        refine lv_goto (tgt := 47) hx hb dX6_isCutOff_43 (by decide) ?_
        exact W.zret hx hb hr (zt_bn (by decide)).1 (fun t ht hW => ⟨⟨_, _, rfl, ⟨Option.some.inj hf, rfl⟩, zt_go hE hP hS zt_id ht hW⟩, hS.F ht⟩) hS.2.2 dX6_isCutOff_47
  have B29 : ∀ (u3 : Int32) (H : Heap) (locs : List Loc) (ls : Array Slot), f_X6_isCutOff_29 σ k0 u3 = some r → va_P (zt_D G) vwCl (zt_ww G σ) H → va_S (zt_A G) s.heap H locs → lv_has ls 5 [(3, .int u3)] → W p l e (zt_R 2 48) s m ([.ref (zt_ad G k0), .int x1, .int x2] : List Value).toArray below meth c H locs 0 0 (MQ below (zt_Ci G r σ) ([.ref (zt_ad G k0), .int x1, .int x2] : List Value).toArray s 0 0 (zt_A G)) (F0 m 29 ls []) := by
    intro u3 H locs ls hf hP hS hl
    unfold f_X6_isCutOff_29 at hf
    refine lv_iconst (v := 0) hx hb dX6_isCutOff_29 (by decide) ?_
    exact B30 0 u3 _ _ _ hf hP hS (lv_sub hl [0] rfl)
  have B16 : ∀ (u1 : Int32) (u3 : Int32) (H : Heap) (locs : List Loc) (ls : Array Slot), f_X6_isCutOff_16 σ k0 u1 u3 = some r → va_P (zt_D G) vwCl (zt_ww G σ) H → va_S (zt_A G) s.heap H locs → lv_has ls 5 [(0, .ref (zt_ad G k0)), (1, .int u1), (3, .int u3)] → W p l e (zt_R 2 48) s m ([.ref (zt_ad G k0), .int x1, .int x2] : List Value).toArray below meth c H locs 0 0 (MQ below (zt_Ci G r σ) ([.ref (zt_ad G k0), .int x1, .int x2] : List Value).toArray s 0 0 (zt_A G)) (F0 m 16 ls []) := by
    intro u1 u3 H locs ls hf hP hS hl
    unfold f_X6_isCutOff_16 at hf
    refine lv_aload_n hx hb dX6_isCutOff_16 rfl (lv_at hl 0 rfl) ?_
    refine lv_iload_n hx hb dX6_isCutOff_17 rfl (lv_at hl 2 rfl) ?_
    obtain ⟨v5, hvv5, hf⟩ := zt_bd_some hf
    refine va_calli (va_runV (As := [.int u3]) (rest := []) ⟨hx, hb, hml, hown, hts⟩ (m_X4_placeAt l G hk0 (σ := σ) hvv5) (cwV 1 hts gX6_isCutOff_X4_placeAt rfl rfl rfl zh_X4_placeAt ⟨Nat.le_of_ble_eq_true rfl, Nat.le_of_ble_eq_true rfl⟩) ⟨zt_blind, va_recv hK hP (ci := 3) (q0 := k0) rfl (zt_a3 hk0), fun U hU hW => ⟨rfl, zt_go hE hP hS zt_id hU hW⟩⟩ rfl rfl hl.1 rfl (lv_room (Nat.le_of_ble_eq_true rfl)) dX6_isCutOff_18 ⟨Nat.zero_le _, Nat.zero_le _⟩) hS (fun _ _ h => h) (fun _ h => h) (fun r u t H locs ht hvm hw hB _ _ hS => ?_)
    rw [hw.1]; have hB : zt_B G u t := hB; rw [hw.2] at hB; have hP := zt_B.P hB ht
    refine lv_iload_n hx hb dX6_isCutOff_21 rfl (lv_at hl 1 rfl) ?_
    refine lv_icmp_ne (tgt := 29) hx hb dX6_isCutOff_22 (by decide) (fun c7 => ?_) (fun c7 => ?_)
    · have hf := (if_neg c7).symm.trans hf
      exact B29 u3 _ _ _ hf hP hS (lv_sub hl [2] rfl)
    · have hf := (if_pos c7).symm.trans hf
      refine lv_iconst (v := 1) hx hb dX6_isCutOff_25 (by decide) ?_
      refine lv_goto (tgt := 30) hx hb dX6_isCutOff_26 (by decide) ?_
      exact B30 1 u3 _ _ _ hf hP hS (lv_sub hl [2] rfl)
  unfold f_X6_isCutOff at hf
  refine lv_aload_n hx hb dX6_isCutOff_0 rfl (lv_at hl 0 rfl) ?_
  refine lv_iload_n hx hb dX6_isCutOff_1 rfl (lv_at hl 1 rfl) ?_
  obtain ⟨v1, hvv1, hf⟩ := zt_bd_some hf
  refine va_calli (va_runV (As := [.int x1]) (rest := []) ⟨hx, hb, hml, hown, hts⟩ (m_X4_cutOver l G hk0 (σ := σ) hvv1) (cwV 1 hts gX6_isCutOff_X4_cutOver rfl rfl rfl zh_X4_cutOver ⟨Nat.le_of_ble_eq_true rfl, Nat.le_of_ble_eq_true rfl⟩) ⟨zt_blind, va_recv hK hP (ci := 3) (q0 := k0) rfl (zt_a3 hk0), fun U hU hW => ⟨rfl, zt_go hE hP hS zt_id hU hW⟩⟩ rfl rfl hl.1 rfl (lv_room (Nat.le_of_ble_eq_true rfl)) dX6_isCutOff_2 ⟨Nat.zero_le _, Nat.zero_le _⟩) hS (fun _ _ h => h) (fun _ h => h) (fun r u t H locs ht hvm hw hB _ _ hS => ?_)
  rw [hw.1]; have hB : zt_B G u t := hB; rw [hw.2] at hB; have hP := zt_B.P hB ht
  refine lv_istore_n (lv' := [(3, .int v1), (0, .ref (zt_ad G k0)), (1, .int x1), (2, .int x2)]) hx hb dX6_isCutOff_5 rfl hl (by decide) rfl (fun ls hl => ?_)
  refine lv_iload_n hx hb dX6_isCutOff_6 rfl (lv_at hl 3 rfl) ?_
  refine lv_iconst (v := 3) hx hb dX6_isCutOff_7 (by decide) ?_
  refine lv_icmp_eq (tgt := 16) hx hb dX6_isCutOff_8 (by decide) (fun c3 => ?_) (fun c3 => ?_)
  · have hf := (if_pos c3).symm.trans hf
    exact B16 x1 v1 _ _ _ hf hP hS (lv_sub hl [1, 2, 0] rfl)
  · have hf := (if_neg c3).symm.trans hf
    refine lv_iload_n hx hb dX6_isCutOff_11 rfl (lv_at hl 3 rfl) ?_
    refine lv_iconst (v := 4) hx hb dX6_isCutOff_12 (by decide) ?_
    refine lv_icmp_ne (tgt := 29) hx hb dX6_isCutOff_13 (by decide) (fun c4 => ?_) (fun c4 => ?_)
    · have hf := (if_neg c4).symm.trans hf
      exact B29 v1 _ _ _ hf hP hS (lv_sub hl [0] rfl)
    · have hf := (if_pos c4).symm.trans hf
      exact B16 x1 v1 _ _ _ hf hP hS (lv_sub hl [1, 2, 0] rfl)

theorem zh_X6_answerCutOff : yX6_answerCutOff.cls ≠ "java/lang/invoke/MethodHandle" ∧ yX6_answerCutOff.cls ≠ "java/lang/invoke/VarHandle" ∧ (parseMethodDescriptor yX6_answerCutOff.desc).map (fun d => d.parameters.length) = some 5 := by decide +kernel
set_option maxHeartbeats 4000000 in
set_option maxRecDepth 100000 in
theorem m_X6_answerCutOff (l : Launch) (G : zt_G) {σ : zt_St} {k0 : Nat} (hk0 : zt_kd k0 = 3) {x1 : Int32} {x2 : Int32} {x3 : Int32} {k4 : Nat} (hk4 : zt_kd k4 = 0) {σ1 : zt_St} (hf : f_X6_answerCutOff σ k0 x1 x2 x3 k4 = some σ1) : zt_Mv l G yX6_answerCutOff wsX6_answerCutOff 2 48 [.ref (zt_ad G k0), .int x1, .int x2, .int x3, .ref (zt_ad G k4)] σ σ1 := by
  refine Met.ofW (cc := cX6_answerCutOff) (maxL := 7) (ret := none) (by decide) rfl ?_
  intro p e s m args below meth c s₁ B hml hv
  obtain ⟨rfl, hBB⟩ := hv
  have hE := zt_B.env hBB; have hK := hE.2.1; have hP := hBB.2.1
  have hx := B.exec; have hb := B.bytes; have hr := B.returns; have hts := atoms_spec (ws := wsX6_answerCutOff) B.pre
  have hown : s.vm.findClass RX6 = some m.cls := findClass_of_methodNamed B.named
  have hlocks := B.notSynchronized
  have hS : va_S (zt_A G) s.heap s.heap [] := va_S.rf
  have hl := lv_entry ([.ref (zt_ad G k0), .int x1, .int x2, .int x3, .ref (zt_ad G k4)]) (n := 7) (Nat.le_of_ble_eq_true rfl)
  rw [lg_entry_eq]
  generalize (lg_sl ([.ref (zt_ad G k0), .int x1, .int x2, .int x3, .ref (zt_ad G k4)]) ++ List.replicate (7 - (lg_sl ([.ref (zt_ad G k0), .int x1, .int x2, .int x3, .ref (zt_ad G k4)])).length) Slot.unset).toArray = ls at hl ⊢
  have hl : lv_has ls 7 [(0, .ref (zt_ad G k0)), (1, .int x1), (2, .int x2), (3, .int x3), (4, .ref (zt_ad G k4))] := hl
  show W p l e (zt_R 2 48) s m ([.ref (zt_ad G k0), .int x1, .int x2, .int x3, .ref (zt_ad G k4)] : List Value).toArray below meth c s.heap [] 0 0 (MQ below (zt_Cv G σ1) ([.ref (zt_ad G k0), .int x1, .int x2, .int x3, .ref (zt_ad G k4)] : List Value).toArray s 0 0 (zt_A G)) (F0 m 0 ls [])
  have fl156 := zt_Nw.use (args := ([.ref (zt_ad G k0), .int x1, .int x2, .int x3, .ref (zt_ad G k4)] : List Value).toArray) hE.2.2.1 (q := ("ZoneTree$Zone", 156, "ZoneTree$Answer", "cutZone", "I", "ZoneTree")) (List.mem_of_getElem? (i := 27) rfl)
  have fl159 := zt_Nw.use (args := ([.ref (zt_ad G k0), .int x1, .int x2, .int x3, .ref (zt_ad G k4)] : List Value).toArray) hE.2.2.1 (q := ("ZoneTree$Zone", 159, "ZoneTree$Answer", "cutTrust", "I", "ZoneTree")) (List.mem_of_getElem? (i := 29) rfl)
  have inX0 : ∀ w ∈ wsX00, w ∈ wsX6_answerCutOff := fun w h => (List.mem_cons_of_mem _ (List.mem_append_left _ (List.mem_append_right _ h)))
  unfold f_X6_answerCutOff at hf
  refine lv_iload_n hx hb dX6_answerCutOff_0 rfl (lv_at hl 3 rfl) ?_
  refine lv_if_eq (tgt := 14) hx hb dX6_answerCutOff_1 (by decide) (fun c1 => ?_) (fun c1 => ?_)
  · have hf := (if_pos c1).symm.trans hf
    refine lv_aload_n hx hb dX6_answerCutOff_14 rfl (lv_at hl 0 rfl) ?_
    refine lv_iload_n hx hb dX6_answerCutOff_15 rfl (lv_at hl 1 rfl) ?_
    obtain ⟨v2, hvv2, hf⟩ := zt_bd_some hf
    refine va_calli (va_runV (As := [.int x1]) (rest := []) ⟨hx, hb, hml, hown, hts⟩ (m_X4_cutOver l G hk0 (σ := σ) hvv2) (cwV 1 hts gX6_answerCutOff_X4_cutOver rfl rfl rfl zh_X4_cutOver ⟨Nat.le_of_ble_eq_true rfl, Nat.le_of_ble_eq_true rfl⟩) ⟨zt_blind, va_recv hK hP (ci := 3) (q0 := k0) rfl (zt_a3 hk0), fun U hU hW => ⟨rfl, zt_go hE hP hS zt_id hU hW⟩⟩ rfl rfl hl.1 rfl (lv_room (Nat.le_of_ble_eq_true rfl)) dX6_answerCutOff_16 ⟨Nat.zero_le _, Nat.zero_le _⟩) hS (fun _ _ h => h) (fun _ h => h) (fun r u t H locs ht hvm hw hB _ _ hS => ?_)
    rw [hw.1]; have hB : zt_B G u t := hB; rw [hw.2] at hB; have hP := zt_B.P hB ht
    refine lv_istore (lv' := [(5, .int v2), (0, .ref (zt_ad G k0)), (1, .int x1), (2, .int x2), (3, .int x3), (4, .ref (zt_ad G k4))]) hx hb dX6_answerCutOff_19 hl (by decide) rfl (fun ls hl => ?_)
    refine lv_aload_n hx hb dX6_answerCutOff_21 rfl (lv_at hl 1 rfl) ?_
    refine lv_iload hx hb dX6_answerCutOff_22 (lv_at hl 0 rfl) ?_
    obtain ⟨v4, hvv4, hf⟩ := zt_bd_some hf
    refine va_calli (va_runV (As := [.int v2]) (rest := []) ⟨hx, hb, hml, hown, hts⟩ (m_X4_placeAt l G hk0 (σ := σ) hvv4) (cwV 1 hts gX6_answerCutOff_X4_placeAt rfl rfl rfl zh_X4_placeAt ⟨Nat.le_of_ble_eq_true rfl, Nat.le_of_ble_eq_true rfl⟩) ⟨zt_blind, va_recv hK hP (ci := 3) (q0 := k0) rfl (zt_a3 hk0), fun U hU hW => ⟨rfl, zt_go hE hP hS zt_id hU hW⟩⟩ rfl rfl hl.1 rfl (lv_room (Nat.le_of_ble_eq_true rfl)) dX6_answerCutOff_24 ⟨Nat.zero_le _, Nat.zero_le _⟩) hS (fun _ _ h => h) (fun _ h => h) (fun r u t H locs ht hvm hw hB _ _ hS => ?_)
    rw [hw.1]; have hB : zt_B G u t := hB; rw [hw.2] at hB; have hP := zt_B.P hB ht
    refine lv_istore (lv' := [(6, .int v4), (5, .int v2), (0, .ref (zt_ad G k0)), (1, .int x1), (2, .int x2), (3, .int x3), (4, .ref (zt_ad G k4))]) hx hb dX6_answerCutOff_27 hl (by decide) rfl (fun ls hl => ?_)
    refine lv_aload hx hb dX6_answerCutOff_29 (lv_at hl 6 rfl) ?_
    refine lv_iconst (v := 3) hx hb dX6_answerCutOff_31 (by decide) ?_
    refine lv_iconst (v := (-1)) hx hb dX6_answerCutOff_32 (by decide) ?_
    refine lv_iload hx hb dX6_answerCutOff_33 (lv_at hl 0 rfl) ?_
    refine lv_aload_n hx hb dX6_answerCutOff_35 rfl (lv_at hl 2 rfl) ?_
    refine lv_iload hx hb dX6_answerCutOff_36 (lv_at hl 1 rfl) ?_
    obtain ⟨v6, hvv6, hf⟩ := zt_bd_some hf
    refine va_calli (va_runV (As := [.int v2]) (rest := [.int v4, .int (-1), .int 3, .ref (zt_ad G k4)]) ⟨hx, hb, hml, hown, hts⟩ (m_X4_lifeAt l G hk0 (σ := σ) hvv6) (cwV 1 hts gX6_answerCutOff_X4_lifeAt rfl rfl rfl zh_X4_lifeAt ⟨Nat.le_of_ble_eq_true rfl, Nat.le_of_ble_eq_true rfl⟩) ⟨zt_blind, va_recv hK hP (ci := 3) (q0 := k0) rfl (zt_a3 hk0), fun U hU hW => ⟨rfl, zt_go hE hP hS zt_id hU hW⟩⟩ rfl rfl hl.1 rfl (lv_room (Nat.le_of_ble_eq_true rfl)) dX6_answerCutOff_38 ⟨Nat.zero_le _, Nat.zero_le _⟩) hS (fun _ _ h => h) (fun _ h => h) (fun r u t H locs ht hvm hw hB _ _ hS => ?_)
    rw [hw.1]; have hB : zt_B G u t := hB; rw [hw.2] at hB; have hP := zt_B.P hB ht
    obtain ⟨σ9, hvv8, hf⟩ := zt_bd_some hf
    refine va_callv (va_runV (As := [.int 3, .int (-1), .int v4, .int v6]) (rest := []) ⟨hx, hb, hml, hown, hts⟩ (m_X0_tell l G hk4 (σ := σ) hvv8) (cwV 4 hts gX6_answerCutOff_X0_tell rfl rfl rfl zh_X0_tell ⟨Nat.le_of_ble_eq_true rfl, Nat.le_of_ble_eq_true rfl⟩) ⟨zt_blind, va_recv hK hP (ci := 0) (q0 := k4) rfl (zt_a0 hk4), fun U hU hW => ⟨rfl, zt_go hE hP hS zt_id hU hW⟩⟩ rfl rfl hl.1 rfl (lv_room (Nat.le_of_ble_eq_true rfl)) dX6_answerCutOff_41 ⟨Nat.zero_le _, Nat.zero_le _⟩) hS (fun _ _ h => h) (fun _ h => h) (fun u t H locs ht hvm hw hB _ _ hS => ?_)
    have hB : zt_B G u t := hB; rw [hw] at hB; have hP := zt_B.P hB ht
    refine lv_aload hx hb dX6_answerCutOff_44 (lv_at hl 6 rfl) ?_
    refine lv_aload_n hx hb dX6_answerCutOff_46 rfl (lv_at hl 2 rfl) ?_
    refine lv_iload hx hb dX6_answerCutOff_47 (lv_at hl 1 rfl) ?_
    obtain ⟨v10, hvv10, hf⟩ := zt_bd_some hf
    refine va_calli (va_runV (As := [.int v2]) (rest := [.ref (zt_ad G k4)]) ⟨hx, hb, hml, hown, hts⟩ (m_X4_numberAt l G hk0 (σ := σ9) hvv10) (cwV 1 hts gX6_answerCutOff_X4_numberAt rfl rfl rfl zh_X4_numberAt ⟨Nat.le_of_ble_eq_true rfl, Nat.le_of_ble_eq_true rfl⟩) ⟨zt_blind, va_recv hK hP (ci := 3) (q0 := k0) rfl (zt_a3 hk0), fun U hU hW => ⟨rfl, zt_go hE hP hS zt_id hU hW⟩⟩ rfl rfl hl.1 rfl (lv_room (Nat.le_of_ble_eq_true rfl)) dX6_answerCutOff_49 ⟨Nat.zero_le _, Nat.zero_le _⟩) hS (fun _ _ h => h) (fun _ h => h) (fun r u t H locs ht hvm hw hB _ _ hS => ?_)
    rw [hw.1]; have hB : zt_B G u t := hB; rw [hw.2] at hB; have hP := zt_B.P hB ht
    obtain ⟨σ12, hσ12, hf⟩ := zt_lt_some hf
    refine va_putN (D := zt_D G) (ci := 0) (v := .int v10) (ty := .int) (C := RX0) (T := TX0) (N := 8) hx hb hts inX0 tyX0 tyX0_ok nmX0 hown hK hP (zt_apart hE.1) hS k4 (zt_a0 hk4) rfl 6 (by decide) fl156 (fun _ h9 => h9) rfl (tyX0_ok 6 (by decide)) rfl rfl (Nat.le_of_ble_eq_true rfl) dX6_answerCutOff_52 (fun H locs hP _ hS => ?_)
    rw [zt_p0_6 hk4, ← hσ12] at hP
    refine lv_aload hx hb dX6_answerCutOff_55 (lv_at hl 6 rfl) ?_
    refine lv_aload_n hx hb dX6_answerCutOff_57 rfl (lv_at hl 2 rfl) ?_
    refine lv_aload_n hx hb dX6_answerCutOff_58 rfl (lv_at hl 2 rfl) ?_
    refine lv_iload hx hb dX6_answerCutOff_59 (lv_at hl 0 rfl) ?_
    refine lv_iconst (v := 4) hx hb dX6_answerCutOff_61 (by decide) ?_
    obtain ⟨v13, hvv13, hf⟩ := zt_bd_some hf
    refine va_calli (va_runV (As := [.int v4, .int 4]) (rest := [.ref (zt_ad G k0), .ref (zt_ad G k4)]) ⟨hx, hb, hml, hown, hts⟩ (m_X4_rowOf l G hk0 (σ := σ12) hvv13) (cwV 2 hts gX6_answerCutOff_X4_rowOf rfl rfl rfl zh_X4_rowOf ⟨Nat.le_of_ble_eq_true rfl, Nat.le_of_ble_eq_true rfl⟩) ⟨zt_blind, va_recv hK hP (ci := 3) (q0 := k0) rfl (zt_a3 hk0), fun U hU hW => ⟨rfl, zt_go hE hP hS zt_id hU hW⟩⟩ rfl rfl hl.1 rfl (lv_room (Nat.le_of_ble_eq_true rfl)) dX6_answerCutOff_62 ⟨Nat.zero_le _, Nat.zero_le _⟩) hS (fun _ _ h => h) (fun _ h => h) (fun r u t H locs ht hvm hw hB _ _ hS => ?_)
    rw [hw.1]; have hB : zt_B G u t := hB; rw [hw.2] at hB; have hP := zt_B.P hB ht
    obtain ⟨v15, hvv15, hf⟩ := zt_bd_some hf
    refine va_calli (va_runV (As := [.int v13]) (rest := [.ref (zt_ad G k4)]) ⟨hx, hb, hml, hown, hts⟩ (m_X4_numberAt l G hk0 (σ := σ12) hvv15) (cwV 1 hts gX6_answerCutOff_X4_numberAt rfl rfl rfl zh_X4_numberAt ⟨Nat.le_of_ble_eq_true rfl, Nat.le_of_ble_eq_true rfl⟩) ⟨zt_blind, va_recv hK hP (ci := 3) (q0 := k0) rfl (zt_a3 hk0), fun U hU hW => ⟨rfl, zt_go hE hP hS zt_id hU hW⟩⟩ rfl rfl hl.1 rfl (lv_room (Nat.le_of_ble_eq_true rfl)) dX6_answerCutOff_65 ⟨Nat.zero_le _, Nat.zero_le _⟩) hS (fun _ _ h => h) (fun _ h => h) (fun r u t H locs ht hvm hw hB _ _ hS => ?_)
    rw [hw.1]; have hB : zt_B G u t := hB; rw [hw.2] at hB; have hP := zt_B.P hB ht
    obtain ⟨σ17, hσ17, hf⟩ := zt_lt_some hf
    refine va_putN (D := zt_D G) (ci := 0) (v := .int v15) (ty := .int) (C := RX0) (T := TX0) (N := 8) hx hb hts inX0 tyX0 tyX0_ok nmX0 hown hK hP (zt_apart hE.1) hS k4 (zt_a0 hk4) rfl 7 (by decide) fl159 (fun _ h9 => h9) rfl (tyX0_ok 7 (by decide)) rfl rfl (Nat.le_of_ble_eq_true rfl) dX6_answerCutOff_68 (fun H locs hP _ hS => ?_)
    rw [zt_p0_7 hk4, ← hσ17] at hP
    exact W.vret hx hb hr (fun t ht hW => ⟨⟨_, rfl, (Option.some.inj hf), zt_go hE hP hS zt_id ht hW⟩, hS.F ht⟩) hS.2.2 dX6_answerCutOff_71
  · have hf := (if_neg c1).symm.trans hf
    refine lv_aload hx hb dX6_answerCutOff_4 (lv_at hl 4 rfl) ?_
    refine lv_iconst (v := 4) hx hb dX6_answerCutOff_6 (by decide) ?_
    refine lv_iconst (v := (-1)) hx hb dX6_answerCutOff_7 (by decide) ?_
    refine lv_iload_n hx hb dX6_answerCutOff_8 rfl (lv_at hl 1 rfl) ?_
    refine lv_iload_n hx hb dX6_answerCutOff_9 rfl (lv_at hl 2 rfl) ?_
    obtain ⟨σ19, hvv18, hf⟩ := zt_bd_some hf
    refine va_callv (va_runV (As := [.int 4, .int (-1), .int x1, .int x2]) (rest := []) ⟨hx, hb, hml, hown, hts⟩ (m_X0_tell l G hk4 (σ := σ) hvv18) (cwV 4 hts gX6_answerCutOff_X0_tell rfl rfl rfl zh_X0_tell ⟨Nat.le_of_ble_eq_true rfl, Nat.le_of_ble_eq_true rfl⟩) ⟨zt_blind, va_recv hK hP (ci := 0) (q0 := k4) rfl (zt_a0 hk4), fun U hU hW => ⟨rfl, zt_go hE hP hS zt_id hU hW⟩⟩ rfl rfl hl.1 rfl (lv_room (Nat.le_of_ble_eq_true rfl)) dX6_answerCutOff_10 ⟨Nat.zero_le _, Nat.zero_le _⟩) hS (fun _ _ h => h) (fun _ h => h) (fun u t H locs ht hvm hw hB _ _ hS => ?_)
    have hB : zt_B G u t := hB; rw [hw] at hB; have hP := zt_B.P hB ht
    exact W.vret hx hb hr (fun t ht hW => ⟨⟨_, rfl, (Option.some.inj hf), zt_go hE hP hS zt_id ht hW⟩, hS.F ht⟩) hS.2.2 dX6_answerCutOff_13

theorem zh_X6_placeFor : yX6_placeFor.cls = RX6 ∧ yX6_placeFor.cls ≠ "java/lang/invoke/MethodHandle" ∧ yX6_placeFor.cls ≠ "java/lang/invoke/VarHandle" ∧ (parseMethodDescriptor yX6_placeFor.desc).map (fun d => d.parameters.length) = some 2 := by decide +kernel
set_option maxHeartbeats 4000000 in
set_option maxRecDepth 100000 in
theorem m_X6_placeFor (l : Launch) (G : zt_G) {σ : zt_St} {k0 : Nat} (hk0 : zt_kd k0 = 5) {k1 : Nat} (hk1 : zt_kd k1 = 3) {x2 : Int32} {r : Int32} (hf : f_X6_placeFor σ k0 k1 x2 = some r) : zt_Mi l G yX6_placeFor wsX6_placeFor 2 46 [.ref (zt_ad G k0), .ref (zt_ad G k1), .int x2] σ r σ := by
  refine Met.ofW (cc := cX6_placeFor) (maxL := 5) (ret := (some .int)) (by decide) rfl ?_
  intro p e s m args below meth c s₁ B hml hv
  obtain ⟨rfl, hBB⟩ := hv
  have hE := zt_B.env hBB; have hK := hE.2.1; have hP := hBB.2.1
  have hx := B.exec; have hb := B.bytes; have hr := B.returns; have hts := atoms_spec (ws := wsX6_placeFor) B.pre
  have hown : s.vm.findClass RX6 = some m.cls := findClass_of_methodNamed B.named
  have hlocks := B.notSynchronized
  have hS : va_S (zt_A G) s.heap s.heap [] := va_S.rf
  have hl := lv_entry ([.ref (zt_ad G k0), .ref (zt_ad G k1), .int x2]) (n := 5) (Nat.le_of_ble_eq_true rfl)
  rw [lg_entry_eq]
  generalize (lg_sl ([.ref (zt_ad G k0), .ref (zt_ad G k1), .int x2]) ++ List.replicate (5 - (lg_sl ([.ref (zt_ad G k0), .ref (zt_ad G k1), .int x2])).length) Slot.unset).toArray = ls at hl ⊢
  have hl : lv_has ls 5 [(0, .ref (zt_ad G k0)), (1, .ref (zt_ad G k1)), (2, .int x2)] := hl
  show W p l e (zt_R 2 46) s m ([.ref (zt_ad G k0), .ref (zt_ad G k1), .int x2] : List Value).toArray below meth c s.heap [] 0 0 (MQ below (zt_Ci G r σ) ([.ref (zt_ad G k0), .ref (zt_ad G k1), .int x2] : List Value).toArray s 0 0 (zt_A G)) (F0 m 0 ls [])
  have fl33 := hts (.fieldLink RX6 33 "ZoneTree$Zone" "apex" "I") (List.mem_cons_of_mem _ (List.mem_append_left _ (List.mem_append_left _ (List.mem_of_getElem? (i := 0) rfl))))
  have fl39 := zt_Nw.use (args := ([.ref (zt_ad G k0), .ref (zt_ad G k1), .int x2] : List Value).toArray) hE.2.2.1 (q := ("ZoneTree$Zone", 39, "ZoneTree$Records", "count", "I", "ZoneTree")) (List.mem_of_getElem? (i := 0) rfl)
  have inX4 : ∀ w ∈ wsX40, w ∈ wsX6_placeFor := fun w h => (List.mem_cons_of_mem _ (List.mem_append_left _ (List.mem_append_right _ h)))
  have inX6 : ∀ w ∈ wsX60, w ∈ wsX6_placeFor := fun w h => (List.mem_cons_of_mem _ (List.mem_append_right _ h))
  have B59 : ∀ (u3 : Int32) (H : Heap) (locs : List Loc) (ls : Array Slot), f_X6_placeFor_59 σ k0 k1 u3 = some r → va_P (zt_D G) vwCl (zt_ww G σ) H → va_S (zt_A G) s.heap H locs → lv_has ls 5 [(3, .int u3)] → W p l e (zt_R 2 46) s m ([.ref (zt_ad G k0), .ref (zt_ad G k1), .int x2] : List Value).toArray below meth c H locs 0 0 (MQ below (zt_Ci G r σ) ([.ref (zt_ad G k0), .ref (zt_ad G k1), .int x2] : List Value).toArray s 0 0 (zt_A G)) (F0 m 59 ls []) := by
    intro u3 H locs ls hf hP hS hl
    unfold f_X6_placeFor_59 at hf
    refine lv_iload_n hx hb dX6_placeFor_59 rfl (lv_at hl 0 rfl) ?_
    refine lv_if_ne (tgt := 67) hx hb dX6_placeFor_60 (by decide) (fun c9 => ?_) (fun c9 => ?_)
    · have hf := (if_neg c9).symm.trans hf
      refine lv_iload_n hx hb dX6_placeFor_67 rfl (lv_at hl 0 rfl) ?_
      refine lv_bipush (v := 10) hx hb dX6_placeFor_68 (by decide +kernel) ?_
      refine lv_imul hx hb dX6_placeFor_70 ?_
      exact W.iret hx hb hr (fun t ht hW => ⟨⟨_, _, rfl, ⟨Option.some.inj hf, rfl⟩, zt_go hE hP hS zt_id ht hW⟩, hS.F ht⟩) hS.2.2 dX6_placeFor_71
    · have hf := (if_pos c9).symm.trans hf
      refine lv_iconst (v := (-1)) hx hb dX6_placeFor_63 (by decide) ?_
      refine lv_goto (tgt := 71) hx hb dX6_placeFor_64 (by decide) ?_
      exact W.iret hx hb hr (fun t ht hW => ⟨⟨_, _, rfl, ⟨Option.some.inj hf, rfl⟩, zt_go hE hP hS zt_id ht hW⟩, hS.F ht⟩) hS.2.2 dX6_placeFor_71
  have B19 : ∀ (n : Nat), ∀ (u3 : Int32) (u4 : Int32) (H : Heap) (locs : List Loc) (ls : Array Slot), f_X6_placeFor_19 σ k0 k1 n u3 u4 = some r → va_P (zt_D G) vwCl (zt_ww G σ) H → va_S (zt_A G) s.heap H locs → lv_has ls 5 [(0, .ref (zt_ad G k0)), (1, .ref (zt_ad G k1)), (3, .int u3), (4, .int u4)] → W p l e (zt_R 2 46) s m ([.ref (zt_ad G k0), .ref (zt_ad G k1), .int x2] : List Value).toArray below meth c H locs 0 0 (MQ below (zt_Ci G r σ) ([.ref (zt_ad G k0), .ref (zt_ad G k1), .int x2] : List Value).toArray s 0 0 (zt_A G)) (F0 m 19 ls []) := by
    intro n
    induction n with
    | zero => intro u3 u4 H locs ls hf; exact nomatch hf
    | succ n hrc19 =>
      intro u3 u4 H locs ls hf hP hS hl
      generalize hrcg : f_X6_placeFor_19 σ k0 k1 n = rc19 at hrc19
      have hf : f_X6_placeFor_19b σ k0 k1 rc19 u3 u4 = some r := by rw [← hrcg]; exact hf
      unfold f_X6_placeFor_19b at hf
      refine lv_iload hx hb dX6_placeFor_19 (lv_at hl 3 rfl) ?_
      refine lv_iconst (v := 4) hx hb dX6_placeFor_21 (by decide) ?_
      refine lv_icmp_ge (tgt := 59) hx hb dX6_placeFor_22 (by decide) (fun c4 => ?_) (fun c4 => ?_)
      · have hf := (if_pos c4).symm.trans hf
        exact B59 u3 _ _ _ hf hP hS (lv_sub hl [2] rfl)
      · have hf := (if_neg c4).symm.trans hf
        refine lv_iload_n hx hb dX6_placeFor_25 rfl (lv_at hl 2 rfl) ?_
        refine lv_aload_n hx hb dX6_placeFor_26 rfl (lv_at hl 0 rfl) ?_
        refine va_get (D := zt_D G) (ci := 5) (v := .int (σ k0 0)) (C := RX6) (T := TX6) (N := 11) hx hb hts inX6 hown hK hP k0 (zt_a5 hk0) rfl 0 (by decide) fl33 (fun _ h9 => h9) rfl dX6_placeFor_27 ?_
        refine lv_icmp_eq (tgt := 59) hx hb dX6_placeFor_30 (by decide) (fun c5 => ?_) (fun c5 => ?_)
        · have hf := (if_pos c5).symm.trans hf
          exact B59 u3 _ _ _ hf hP hS (lv_sub hl [2] rfl)
        · have hf := (if_neg c5).symm.trans hf
          refine lv_iload_n hx hb dX6_placeFor_33 rfl (lv_at hl 2 rfl) ?_
          refine lv_bipush (v := 10) hx hb dX6_placeFor_34 (by decide +kernel) ?_
          refine lv_idiv hx hb dX6_placeFor_36 (by decide) ?_
          refine lv_istore_n (lv' := [(3, .int (u3 / 10)), (0, .ref (zt_ad G k0)), (1, .ref (zt_ad G k1)), (4, .int u4)]) hx hb dX6_placeFor_37 rfl hl (by decide) rfl (fun ls hl => ?_)
          refine lv_aload_n hx hb dX6_placeFor_38 rfl (lv_at hl 2 rfl) ?_
          refine lv_aload_n hx hb dX6_placeFor_39 rfl (lv_at hl 2 rfl) ?_
          refine va_getN (D := zt_D G) (ci := 3) (v := .int (σ k1 4)) (C := RX4) (T := TX4) (N := 5) hx hb hts inX4 hown hK hP k1 (zt_a3 hk1) rfl 4 (by decide) fl39 (fun _ h9 => h9) rfl dX6_placeFor_40 ?_
          refine lv_iload_n hx hb dX6_placeFor_43 rfl (lv_at hl 0 rfl) ?_
          obtain ⟨v6, hvv6, hf⟩ := zt_bd_some hf
          refine va_calli (va_runV (As := [.int (σ k1 4), .int (u3 / 10)]) (rest := []) ⟨hx, hb, hml, hown, hts⟩ (m_X4_isThereBy l G hk1 (σ := σ) hvv6) (cwV 2 hts gX6_placeFor_X4_isThereBy rfl rfl rfl zh_X4_isThereBy ⟨Nat.le_of_ble_eq_true rfl, Nat.le_of_ble_eq_true rfl⟩) ⟨zt_blind, va_recv hK hP (ci := 3) (q0 := k1) rfl (zt_a3 hk1), fun U hU hW => ⟨rfl, zt_go hE hP hS zt_id hU hW⟩⟩ rfl rfl hl.1 rfl (lv_room (Nat.le_of_ble_eq_true rfl)) dX6_placeFor_44 ⟨Nat.zero_le _, Nat.zero_le _⟩) hS (fun _ _ h => h) (fun _ h => h) (fun r u t H locs ht hvm hw hB _ _ hS => ?_)
          rw [hw.1]; have hB : zt_B G u t := hB; rw [hw.2] at hB; have hP := zt_B.P hB ht
          refine lv_if_eq (tgt := 53) hx hb dX6_placeFor_47 (by decide) (fun c8 => ?_) (fun c8 => ?_)
          · have hf := (if_pos c8).symm.trans hf
            refine lv_iinc (v := (u4 + 1)) (lv' := [(4, .int (u4 + 1)), (3, .int (u3 / 10)), (0, .ref (zt_ad G k0)), (1, .ref (zt_ad G k1))]) hx hb dX6_placeFor_53 hl (k := 3) rfl rfl (by decide) rfl (fun ls hl => ?_)
            refine lv_goto (tgt := 19) hx hb dX6_placeFor_56 (by decide) ?_
            exact hrc19 (u3 / 10) (u4 + 1) _ _ _ hf hP hS (lv_sub hl [2, 3, 1, 0] rfl)
          · have hf := (if_neg c8).symm.trans hf
            refine lv_goto (tgt := 59) hx hb dX6_placeFor_50 (by decide) ?_
            exact B59 (u3 / 10) _ _ _ hf hP hS (lv_sub hl [0] rfl)
  unfold f_X6_placeFor at hf
  refine lv_aload_n hx hb dX6_placeFor_0 rfl (lv_at hl 1 rfl) ?_
  refine lv_aload_n hx hb dX6_placeFor_1 rfl (lv_at hl 1 rfl) ?_
  refine va_getN (D := zt_D G) (ci := 3) (v := .int (σ k1 4)) (C := RX4) (T := TX4) (N := 5) hx hb hts inX4 hown hK hP k1 (zt_a3 hk1) rfl 4 (by decide) fl39 (fun _ h9 => h9) rfl dX6_placeFor_2 ?_
  refine lv_iload_n hx hb dX6_placeFor_5 rfl (lv_at hl 2 rfl) ?_
  obtain ⟨v1, hvv1, hf⟩ := zt_bd_some hf
  refine va_calli (va_runV (As := [.int (σ k1 4), .int x2]) (rest := []) ⟨hx, hb, hml, hown, hts⟩ (m_X4_isThereBy l G hk1 (σ := σ) hvv1) (cwV 2 hts gX6_placeFor_X4_isThereBy rfl rfl rfl zh_X4_isThereBy ⟨Nat.le_of_ble_eq_true rfl, Nat.le_of_ble_eq_true rfl⟩) ⟨zt_blind, va_recv hK hP (ci := 3) (q0 := k1) rfl (zt_a3 hk1), fun U hU hW => ⟨rfl, zt_go hE hP hS zt_id hU hW⟩⟩ rfl rfl hl.1 rfl (lv_room (Nat.le_of_ble_eq_true rfl)) dX6_placeFor_6 ⟨Nat.zero_le _, Nat.zero_le _⟩) hS (fun _ _ h => h) (fun _ h => h) (fun r u t H locs ht hvm hw hB _ _ hS => ?_)
  rw [hw.1]; have hB : zt_B G u t := hB; rw [hw.2] at hB; have hP := zt_B.P hB ht
  refine lv_if_eq (tgt := 14) hx hb dX6_placeFor_9 (by decide) (fun c3 => ?_) (fun c3 => ?_)
  · have hf := (if_pos c3).symm.trans hf
    refine lv_iload_n hx hb dX6_placeFor_14 rfl (lv_at hl 2 rfl) ?_
    refine lv_istore_n (lv' := [(3, .int x2), (0, .ref (zt_ad G k0)), (1, .ref (zt_ad G k1)), (2, .int x2)]) hx hb dX6_placeFor_15 rfl hl (by decide) rfl (fun ls hl => ?_)
    refine lv_iconst (v := 0) hx hb dX6_placeFor_16 (by decide) ?_
    refine lv_istore (lv' := [(4, .int 0), (3, .int x2), (0, .ref (zt_ad G k0)), (1, .ref (zt_ad G k1)), (2, .int x2)]) hx hb dX6_placeFor_17 hl (by decide) rfl (fun ls hl => ?_)
    exact B19 zt_FU x2 0 _ _ _ hf hP hS (lv_sub hl [2, 3, 1, 0] rfl)
  · have hf := (if_neg c3).symm.trans hf
    refine lv_iload_n hx hb dX6_placeFor_12 rfl (lv_at hl 2 rfl) ?_
    exact W.iret hx hb hr (fun t ht hW => ⟨⟨_, _, rfl, ⟨Option.some.inj hf, rfl⟩, zt_go hE hP hS zt_id ht hW⟩, hS.F ht⟩) hS.2.2 dX6_placeFor_13

theorem zh_X6_answerAt : yX6_answerAt.cls = RX6 ∧ yX6_answerAt.cls ≠ "java/lang/invoke/MethodHandle" ∧ yX6_answerAt.cls ≠ "java/lang/invoke/VarHandle" ∧ (parseMethodDescriptor yX6_answerAt.desc).map (fun d => d.parameters.length) = some 6 := by decide +kernel
set_option maxHeartbeats 4000000 in
set_option maxRecDepth 100000 in
theorem m_X6_answerAt (l : Launch) (G : zt_G) {σ : zt_St} {k0 : Nat} (hk0 : zt_kd k0 = 5) {k1 : Nat} (hk1 : zt_kd k1 = 3) {x2 : Int32} {x3 : Int32} {x4 : Int32} {x5 : Int32} {k6 : Nat} (hk6 : zt_kd k6 = 0) {σ1 : zt_St} (hf : f_X6_answerAt σ k0 k1 x2 x3 x4 x5 k6 = some σ1) : zt_Mv l G yX6_answerAt wsX6_answerAt 1 24 [.ref (zt_ad G k0), .ref (zt_ad G k1), .int x2, .int x3, .int x4, .int x5, .ref (zt_ad G k6)] σ σ1 := by
  refine Met.ofW (cc := cX6_answerAt) (maxL := 9) (ret := none) (by decide) rfl ?_
  intro p e s m args below meth c s₁ B hml hv
  obtain ⟨rfl, hBB⟩ := hv
  have hE := zt_B.env hBB; have hK := hE.2.1; have hP := hBB.2.1
  have hx := B.exec; have hb := B.bytes; have hr := B.returns; have hts := atoms_spec (ws := wsX6_answerAt) B.pre
  have hown : s.vm.findClass RX6 = some m.cls := findClass_of_methodNamed B.named
  have hlocks := B.notSynchronized
  have hS : va_S (zt_A G) s.heap s.heap [] := va_S.rf
  have hl := lv_entry ([.ref (zt_ad G k0), .ref (zt_ad G k1), .int x2, .int x3, .int x4, .int x5, .ref (zt_ad G k6)]) (n := 9) (Nat.le_of_ble_eq_true rfl)
  rw [lg_entry_eq]
  generalize (lg_sl ([.ref (zt_ad G k0), .ref (zt_ad G k1), .int x2, .int x3, .int x4, .int x5, .ref (zt_ad G k6)]) ++ List.replicate (9 - (lg_sl ([.ref (zt_ad G k0), .ref (zt_ad G k1), .int x2, .int x3, .int x4, .int x5, .ref (zt_ad G k6)])).length) Slot.unset).toArray = ls at hl ⊢
  have hl : lv_has ls 9 [(0, .ref (zt_ad G k0)), (1, .ref (zt_ad G k1)), (2, .int x2), (3, .int x3), (4, .int x4), (5, .int x5), (6, .ref (zt_ad G k6))] := hl
  show W p l e (zt_R 1 24) s m ([.ref (zt_ad G k0), .ref (zt_ad G k1), .int x2, .int x3, .int x4, .int x5, .ref (zt_ad G k6)] : List Value).toArray below meth c s.heap [] 0 0 (MQ below (zt_Cv G σ1) ([.ref (zt_ad G k0), .ref (zt_ad G k1), .int x2, .int x3, .int x4, .int x5, .ref (zt_ad G k6)] : List Value).toArray s 0 0 (zt_A G)) (F0 m 0 ls [])
  have fl162 := hts (.fieldLink RX6 162 "ZoneTree$Zone" "life" "I") (List.mem_cons_of_mem _ (List.mem_append_left _ (List.mem_append_left _ (List.mem_append_left _ (List.mem_append_left _ (List.mem_of_getElem? (i := 4) rfl))))))
  have inX6 : ∀ w ∈ wsX60, w ∈ wsX6_answerAt := fun w h => (List.mem_cons_of_mem _ (List.mem_append_left _ (List.mem_append_left _ (List.mem_append_right _ h))))
  have B72 : ∀ (σ : zt_St) (y0 : Int32) (u3 : Int32) (u5 : Int32) (H : Heap) (locs : List Loc) (ls : Array Slot), f_X6_answerAt_72 k0 k1 k6 σ y0 u3 u5 = some σ1 → va_P (zt_D G) vwCl (zt_ww G σ) H → va_S (zt_A G) s.heap H locs → lv_has ls 9 [(0, .ref (zt_ad G k0)), (3, .int u3), (5, .int u5)] → W p l e (zt_R 1 24) s m ([.ref (zt_ad G k0), .ref (zt_ad G k1), .int x2, .int x3, .int x4, .int x5, .ref (zt_ad G k6)] : List Value).toArray below meth c H locs 0 0 (MQ below (zt_Cv G σ1) ([.ref (zt_ad G k0), .ref (zt_ad G k1), .int x2, .int x3, .int x4, .int x5, .ref (zt_ad G k6)] : List Value).toArray s 0 0 (zt_A G)) (F0 m 72 ls [.int y0, .ref (zt_ad G k6)]) := by
    intro σ y0 u3 u5 H locs ls hf hP hS hl
    unfold f_X6_answerAt_72 at hf
    refine lv_iconst (v := (-1)) hx hb dX6_answerAt_72 (by decide) ?_
    refine lv_iload_n hx hb dX6_answerAt_73 rfl (lv_at hl 1 rfl) ?_
    refine lv_iload hx hb dX6_answerAt_74 (lv_at hl 2 rfl) ?_
    refine lv_aload_n hx hb dX6_answerAt_76 rfl (lv_at hl 0 rfl) ?_
    refine va_get (D := zt_D G) (ci := 5) (v := .int (σ k0 1)) (C := RX6) (T := TX6) (N := 11) hx hb hts inX6 hown hK hP k0 (zt_a5 hk0) rfl 1 (by decide) fl162 (fun _ h9 => h9) rfl dX6_answerAt_77 ?_
    refine va_mmin hx hb (hml.trans hl.1.symm) hown (hts (.methodLink RX6 142 Lib.Math.min.name) (List.mem_cons_of_mem _ (List.mem_append_left _ (List.mem_append_left _ (List.mem_append_left _ (List.mem_append_left _ (List.mem_of_getElem? (i := 0) rfl))))))) (hts (.static Lib.Math.min.name) (List.mem_cons_of_mem _ (List.mem_append_left _ (List.mem_append_left _ (List.mem_append_left _ (List.mem_append_left _ (List.mem_of_getElem? (i := 1) rfl))))))) (hts (.initialized "java/lang/Math") (List.mem_cons_of_mem _ (List.mem_append_left _ (List.mem_append_left _ (List.mem_append_left _ (List.mem_append_left _ (List.mem_of_getElem? (i := 2) rfl))))))) (hts (.code Lib.Math.min.name Lib.Math.min.code 2 (some .int)) (List.mem_cons_of_mem _ (List.mem_append_left _ (List.mem_append_left _ (List.mem_append_left _ (List.mem_append_left _ (List.mem_of_getElem? (i := 3) rfl))))))) (Nat.le_of_ble_eq_true rfl) (Nat.le_of_ble_eq_true rfl) (Nat.zero_le _) (Nat.zero_le _) dX6_answerAt_80 ?_
    obtain ⟨σ16, hvv15, hf⟩ := zt_bd_some hf
    refine va_callv (va_runV (As := [.int y0, .int (-1), .int u3, .int (if (σ k0 1) < u5 then (σ k0 1) else u5)]) (rest := []) ⟨hx, hb, hml, hown, hts⟩ (m_X0_tell l G hk6 (σ := σ) hvv15) (cwV 4 hts gX6_answerAt_X0_tell rfl rfl rfl zh_X0_tell ⟨Nat.le_of_ble_eq_true rfl, Nat.le_of_ble_eq_true rfl⟩) ⟨zt_blind, va_recv hK hP (ci := 0) (q0 := k6) rfl (zt_a0 hk6), fun U hU hW => ⟨rfl, zt_go hE hP hS zt_id hU hW⟩⟩ rfl rfl hl.1 rfl (lv_room (Nat.le_of_ble_eq_true rfl)) dX6_answerAt_83 ⟨Nat.zero_le _, Nat.zero_le _⟩) hS (fun _ _ h => h) (fun _ h => h) (fun u t H locs ht hvm hw hB _ _ hS => ?_)
    have hB : zt_B G u t := hB; rw [hw] at hB; have hP := zt_B.P hB ht
    exact W.vret hx hb hr (fun t ht hW => ⟨⟨_, rfl, (Option.some.inj hf), zt_go hE hP hS zt_id ht hW⟩, hS.F ht⟩) hS.2.2 dX6_answerAt_86
  have B58 : ∀ (σ : zt_St) (y0 : Int32) (u3 : Int32) (u5 : Int32) (H : Heap) (locs : List Loc) (ls : Array Slot), f_X6_answerAt_58 k0 k1 k6 σ y0 u3 u5 = some σ1 → va_P (zt_D G) vwCl (zt_ww G σ) H → va_S (zt_A G) s.heap H locs → lv_has ls 9 [(0, .ref (zt_ad G k0)), (3, .int u3), (5, .int u5), (6, .ref (zt_ad G k6))] → W p l e (zt_R 1 24) s m ([.ref (zt_ad G k0), .ref (zt_ad G k1), .int x2, .int x3, .int x4, .int x5, .ref (zt_ad G k6)] : List Value).toArray below meth c H locs 0 0 (MQ below (zt_Cv G σ1) ([.ref (zt_ad G k0), .ref (zt_ad G k1), .int x2, .int x3, .int x4, .int x5, .ref (zt_ad G k6)] : List Value).toArray s 0 0 (zt_A G)) (F0 m 58 ls [.int y0]) := by
    intro σ y0 u3 u5 H locs ls hf hP hS hl
    unfold f_X6_answerAt_58 at hf
    refine lv_istore (lv' := [(8, .int y0), (0, .ref (zt_ad G k0)), (3, .int u3), (5, .int u5), (6, .ref (zt_ad G k6))]) hx hb dX6_answerAt_58 hl (by decide) rfl (fun ls hl => ?_)
    refine lv_aload hx hb dX6_answerAt_60 (lv_at hl 4 rfl) ?_
    refine lv_iload hx hb dX6_answerAt_62 (lv_at hl 0 rfl) ?_
    refine lv_if_eq (tgt := 71) hx hb dX6_answerAt_64 (by decide) (fun c14 => ?_) (fun c14 => ?_)
    · have hf := (if_pos c14).symm.trans hf
      refine lv_iconst (v := 2) hx hb dX6_answerAt_71 (by decide) ?_
      exact B72 σ 2 u3 u5 _ _ _ hf hP hS (lv_sub hl [1, 2, 3] rfl)
    · have hf := (if_neg c14).symm.trans hf
      refine lv_iconst (v := 1) hx hb dX6_answerAt_67 (by decide) ?_
      refine lv_goto (tgt := 72) hx hb dX6_answerAt_68 (by decide) ?_
      exact B72 σ 1 u3 u5 _ _ _ hf hP hS (lv_sub hl [1, 2, 3] rfl)
  have B53 : ∀ (σ : zt_St) (u3 : Int32) (u5 : Int32) (H : Heap) (locs : List Loc) (ls : Array Slot), f_X6_answerAt_53 k0 k1 k6 σ u3 u5 = some σ1 → va_P (zt_D G) vwCl (zt_ww G σ) H → va_S (zt_A G) s.heap H locs → lv_has ls 9 [(0, .ref (zt_ad G k0)), (3, .int u3), (5, .int u5), (6, .ref (zt_ad G k6))] → W p l e (zt_R 1 24) s m ([.ref (zt_ad G k0), .ref (zt_ad G k1), .int x2, .int x3, .int x4, .int x5, .ref (zt_ad G k6)] : List Value).toArray below meth c H locs 0 0 (MQ below (zt_Cv G σ1) ([.ref (zt_ad G k0), .ref (zt_ad G k1), .int x2, .int x3, .int x4, .int x5, .ref (zt_ad G k6)] : List Value).toArray s 0 0 (zt_A G)) (F0 m 53 ls []) := by
    intro σ u3 u5 H locs ls hf hP hS hl
    unfold f_X6_answerAt_53 at hf
    refine lv_iconst (v := 1) hx hb dX6_answerAt_53 (by decide) ?_
    refine lv_goto (tgt := 58) hx hb dX6_answerAt_54 (by decide) ?_
    exact B58 σ 1 u3 u5 _ _ _ hf hP hS (lv_sub hl [0, 1, 2, 3] rfl)
  unfold f_X6_answerAt at hf
  refine lv_aload_n hx hb dX6_answerAt_0 rfl (lv_at hl 1 rfl) ?_
  refine lv_iload_n hx hb dX6_answerAt_1 rfl (lv_at hl 2 rfl) ?_
  refine lv_iload hx hb dX6_answerAt_2 (lv_at hl 4 rfl) ?_
  obtain ⟨v1, hvv1, hf⟩ := zt_bd_some hf
  refine va_calli (va_runV (As := [.int x2, .int x4]) (rest := []) ⟨hx, hb, hml, hown, hts⟩ (m_X4_rowOf l G hk1 (σ := σ) hvv1) (cwV 2 hts gX6_answerAt_X4_rowOf rfl rfl rfl zh_X4_rowOf ⟨Nat.le_of_ble_eq_true rfl, Nat.le_of_ble_eq_true rfl⟩) ⟨zt_blind, va_recv hK hP (ci := 3) (q0 := k1) rfl (zt_a3 hk1), fun U hU hW => ⟨rfl, zt_go hE hP hS zt_id hU hW⟩⟩ rfl rfl hl.1 rfl (lv_room (Nat.le_of_ble_eq_true rfl)) dX6_answerAt_4 ⟨Nat.zero_le _, Nat.zero_le _⟩) hS (fun _ _ h => h) (fun _ h => h) (fun r u t H locs ht hvm hw hB _ _ hS => ?_)
  rw [hw.1]; have hB : zt_B G u t := hB; rw [hw.2] at hB; have hP := zt_B.P hB ht
  refine lv_istore (lv' := [(7, .int v1), (0, .ref (zt_ad G k0)), (1, .ref (zt_ad G k1)), (2, .int x2), (3, .int x3), (4, .int x4), (5, .int x5), (6, .ref (zt_ad G k6))]) hx hb dX6_answerAt_7 hl (by decide) rfl (fun ls hl => ?_)
  refine lv_iload hx hb dX6_answerAt_9 (lv_at hl 0 rfl) ?_
  refine lv_iconst (v := (-1)) hx hb dX6_answerAt_11 (by decide) ?_
  refine lv_icmp_eq (tgt := 40) hx hb dX6_answerAt_12 (by decide) (fun c3 => ?_) (fun c3 => ?_)
  · have hf := (if_pos c3).symm.trans hf
    refine lv_iload_n hx hb dX6_answerAt_40 rfl (lv_at hl 3 rfl) ?_
    refine lv_iload_n hx hb dX6_answerAt_41 rfl (lv_at hl 4 rfl) ?_
    refine lv_icmp_eq (tgt := 53) hx hb dX6_answerAt_42 (by decide) (fun c4 => ?_) (fun c4 => ?_)
    · have hf := (if_pos c4).symm.trans hf
      exact B53 σ x3 x5 _ _ _ hf hP hS (lv_sub hl [1, 4, 6, 7] rfl)
    · have hf := (if_neg c4).symm.trans hf
      refine lv_aload_n hx hb dX6_answerAt_45 rfl (lv_at hl 2 rfl) ?_
      refine lv_iload_n hx hb dX6_answerAt_46 rfl (lv_at hl 3 rfl) ?_
      obtain ⟨v5, hvv5, hf⟩ := zt_bd_some hf
      refine va_calli (va_runV (As := [.int x2]) (rest := []) ⟨hx, hb, hml, hown, hts⟩ (m_X4_countAt l G hk1 (σ := σ) hvv5) (cwV 1 hts gX6_answerAt_X4_countAt rfl rfl rfl zh_X4_countAt ⟨Nat.le_of_ble_eq_true rfl, Nat.le_of_ble_eq_true rfl⟩) ⟨zt_blind, va_recv hK hP (ci := 3) (q0 := k1) rfl (zt_a3 hk1), fun U hU hW => ⟨rfl, zt_go hE hP hS zt_id hU hW⟩⟩ rfl rfl hl.1 rfl (lv_room (Nat.le_of_ble_eq_true rfl)) dX6_answerAt_47 ⟨Nat.zero_le _, Nat.zero_le _⟩) hS (fun _ _ h => h) (fun _ h => h) (fun r u t H locs ht hvm hw hB _ _ hS => ?_)
      rw [hw.1]; have hB : zt_B G u t := hB; rw [hw.2] at hB; have hP := zt_B.P hB ht
      refine lv_if_le (tgt := 57) hx hb dX6_answerAt_50 (by decide) (fun c7 => ?_) (fun c7 => ?_)
      · have hf := (if_pos c7).symm.trans hf
        refine lv_iconst (v := 0) hx hb dX6_answerAt_57 (by decide) ?_
        exact B58 σ 0 x3 x5 _ _ _ hf hP hS (lv_sub hl [1, 4, 6, 7] rfl)
      · have hf := (if_neg c7).symm.trans hf
        exact B53 σ x3 x5 _ _ _ hf hP hS (lv_sub hl [1, 4, 6, 7] rfl)
  · have hf := (if_neg c3).symm.trans hf
    refine lv_aload hx hb dX6_answerAt_15 (lv_at hl 7 rfl) ?_
    refine lv_iconst (v := 0) hx hb dX6_answerAt_17 (by decide) ?_
    refine lv_aload_n hx hb dX6_answerAt_18 rfl (lv_at hl 2 rfl) ?_
    refine lv_iload hx hb dX6_answerAt_19 (lv_at hl 0 rfl) ?_
    obtain ⟨v8, hvv8, hf⟩ := zt_bd_some hf
    refine va_calli (va_runV (As := [.int v1]) (rest := [.int 0, .ref (zt_ad G k6)]) ⟨hx, hb, hml, hown, hts⟩ (m_X4_numberAt l G hk1 (σ := σ) hvv8) (cwV 1 hts gX6_answerAt_X4_numberAt rfl rfl rfl zh_X4_numberAt ⟨Nat.le_of_ble_eq_true rfl, Nat.le_of_ble_eq_true rfl⟩) ⟨zt_blind, va_recv hK hP (ci := 3) (q0 := k1) rfl (zt_a3 hk1), fun U hU hW => ⟨rfl, zt_go hE hP hS zt_id hU hW⟩⟩ rfl rfl hl.1 rfl (lv_room (Nat.le_of_ble_eq_true rfl)) dX6_answerAt_21 ⟨Nat.zero_le _, Nat.zero_le _⟩) hS (fun _ _ h => h) (fun _ h => h) (fun r u t H locs ht hvm hw hB _ _ hS => ?_)
    rw [hw.1]; have hB : zt_B G u t := hB; rw [hw.2] at hB; have hP := zt_B.P hB ht
    refine lv_iload_n hx hb dX6_answerAt_24 rfl (lv_at hl 4 rfl) ?_
    refine lv_iload hx hb dX6_answerAt_25 (lv_at hl 6 rfl) ?_
    refine lv_aload_n hx hb dX6_answerAt_27 rfl (lv_at hl 2 rfl) ?_
    refine lv_iload hx hb dX6_answerAt_28 (lv_at hl 0 rfl) ?_
    obtain ⟨v10, hvv10, hf⟩ := zt_bd_some hf
    refine va_calli (va_runV (As := [.int v1]) (rest := [.int x5, .int x3, .int v8, .int 0, .ref (zt_ad G k6)]) ⟨hx, hb, hml, hown, hts⟩ (m_X4_lifeAt l G hk1 (σ := σ) hvv10) (cwV 1 hts gX6_answerAt_X4_lifeAt rfl rfl rfl zh_X4_lifeAt ⟨Nat.le_of_ble_eq_true rfl, Nat.le_of_ble_eq_true rfl⟩) ⟨zt_blind, va_recv hK hP (ci := 3) (q0 := k1) rfl (zt_a3 hk1), fun U hU hW => ⟨rfl, zt_go hE hP hS zt_id hU hW⟩⟩ rfl rfl hl.1 rfl (lv_room (Nat.le_of_ble_eq_true rfl)) dX6_answerAt_30 ⟨Nat.zero_le _, Nat.zero_le _⟩) hS (fun _ _ h => h) (fun _ h => h) (fun r u t H locs ht hvm hw hB _ _ hS => ?_)
    rw [hw.1]; have hB : zt_B G u t := hB; rw [hw.2] at hB; have hP := zt_B.P hB ht
    refine va_mmin hx hb (hml.trans hl.1.symm) hown (hts (.methodLink RX6 142 Lib.Math.min.name) (List.mem_cons_of_mem _ (List.mem_append_left _ (List.mem_append_left _ (List.mem_append_left _ (List.mem_append_left _ (List.mem_of_getElem? (i := 0) rfl))))))) (hts (.static Lib.Math.min.name) (List.mem_cons_of_mem _ (List.mem_append_left _ (List.mem_append_left _ (List.mem_append_left _ (List.mem_append_left _ (List.mem_of_getElem? (i := 1) rfl))))))) (hts (.initialized "java/lang/Math") (List.mem_cons_of_mem _ (List.mem_append_left _ (List.mem_append_left _ (List.mem_append_left _ (List.mem_append_left _ (List.mem_of_getElem? (i := 2) rfl))))))) (hts (.code Lib.Math.min.name Lib.Math.min.code 2 (some .int)) (List.mem_cons_of_mem _ (List.mem_append_left _ (List.mem_append_left _ (List.mem_append_left _ (List.mem_append_left _ (List.mem_of_getElem? (i := 3) rfl))))))) (Nat.le_of_ble_eq_true rfl) (Nat.le_of_ble_eq_true rfl) (Nat.zero_le _) (Nat.zero_le _) dX6_answerAt_33 ?_
    obtain ⟨σ13, hvv12, hf⟩ := zt_bd_some hf
    refine va_callv (va_runV (As := [.int 0, .int v8, .int x3, .int (if v10 < x5 then v10 else x5)]) (rest := []) ⟨hx, hb, hml, hown, hts⟩ (m_X0_tell l G hk6 (σ := σ) hvv12) (cwV 4 hts gX6_answerAt_X0_tell rfl rfl rfl zh_X0_tell ⟨Nat.le_of_ble_eq_true rfl, Nat.le_of_ble_eq_true rfl⟩) ⟨zt_blind, va_recv hK hP (ci := 0) (q0 := k6) rfl (zt_a0 hk6), fun U hU hW => ⟨rfl, zt_go hE hP hS zt_id hU hW⟩⟩ rfl rfl hl.1 rfl (lv_room (Nat.le_of_ble_eq_true rfl)) dX6_answerAt_36 ⟨Nat.zero_le _, Nat.zero_le _⟩) hS (fun _ _ h => h) (fun _ h => h) (fun u t H locs ht hvm hw hB _ _ hS => ?_)
    have hB : zt_B G u t := hB; rw [hw] at hB; have hP := zt_B.P hB ht
    exact W.vret hx hb hr (fun t ht hW => ⟨⟨_, rfl, (Option.some.inj hf), zt_go hE hP hS zt_id ht hW⟩, hS.F ht⟩) hS.2.2 dX6_answerAt_39

theorem zh_X6_answer : yX6_answer.cls = RX6 ∧ yX6_answer.cls ≠ "java/lang/invoke/MethodHandle" ∧ yX6_answer.cls ≠ "java/lang/invoke/VarHandle" ∧ (parseMethodDescriptor yX6_answer.desc).map (fun d => d.parameters.length) = some 4 := by decide +kernel
set_option maxHeartbeats 4000000 in
set_option maxRecDepth 100000 in
theorem m_X6_answer (l : Launch) (G : zt_G) {σ : zt_St} {k0 : Nat} (hk0 : zt_kd k0 = 5) {k1 : Nat} (hk1 : zt_kd k1 = 3) {x2 : Int32} {x3 : Int32} {k4 : Nat} (hk4 : zt_kd k4 = 0) {σ1 : zt_St} (hf : f_X6_answer σ k0 k1 x2 x3 k4 = some σ1) : zt_Mv l G yX6_answer wsX6_answer 3 74 [.ref (zt_ad G k0), .ref (zt_ad G k1), .int x2, .int x3, .ref (zt_ad G k4)] σ σ1 := by
  refine Met.ofW (cc := cX6_answer) (maxL := 11) (ret := none) (by decide) rfl ?_
  intro p e s m args below meth c s₁ B hml hv
  obtain ⟨rfl, hBB⟩ := hv
  have hE := zt_B.env hBB; have hK := hE.2.1; have hP := hBB.2.1
  have hx := B.exec; have hb := B.bytes; have hr := B.returns; have hts := atoms_spec (ws := wsX6_answer) B.pre
  have hown : s.vm.findClass RX6 = some m.cls := findClass_of_methodNamed B.named
  have hlocks := B.notSynchronized
  have hS : va_S (zt_A G) s.heap s.heap [] := va_S.rf
  have hl := lv_entry ([.ref (zt_ad G k0), .ref (zt_ad G k1), .int x2, .int x3, .ref (zt_ad G k4)]) (n := 11) (Nat.le_of_ble_eq_true rfl)
  rw [lg_entry_eq]
  generalize (lg_sl ([.ref (zt_ad G k0), .ref (zt_ad G k1), .int x2, .int x3, .ref (zt_ad G k4)]) ++ List.replicate (11 - (lg_sl ([.ref (zt_ad G k0), .ref (zt_ad G k1), .int x2, .int x3, .ref (zt_ad G k4)])).length) Slot.unset).toArray = ls at hl ⊢
  have hl : lv_has ls 11 [(0, .ref (zt_ad G k0)), (1, .ref (zt_ad G k1)), (2, .int x2), (3, .int x3), (4, .ref (zt_ad G k4))] := hl
  show W p l e (zt_R 3 74) s m ([.ref (zt_ad G k0), .ref (zt_ad G k1), .int x2, .int x3, .ref (zt_ad G k4)] : List Value).toArray below meth c s.heap [] 0 0 (MQ below (zt_Cv G σ1) ([.ref (zt_ad G k0), .ref (zt_ad G k1), .int x2, .int x3, .ref (zt_ad G k4)] : List Value).toArray s 0 0 (zt_A G)) (F0 m 0 ls [])
  have fl33 := hts (.fieldLink RX6 33 "ZoneTree$Zone" "apex" "I") (List.mem_cons_of_mem _ (List.mem_append_left _ (List.mem_append_left _ (List.mem_append_left _ (List.mem_append_left _ (List.mem_of_getElem? (i := 4) rfl))))))
  have inX6 : ∀ w ∈ wsX60, w ∈ wsX6_answer := fun w h => (List.mem_cons_of_mem _ (List.mem_append_left _ (List.mem_append_left _ (List.mem_append_right _ h))))
  have B207 : ∀ (σ : zt_St) (H : Heap) (locs : List Loc) (ls : Array Slot), f_X6_answer_207 k0 k1 k4 σ = some σ1 → va_P (zt_D G) vwCl (zt_ww G σ) H → va_S (zt_A G) s.heap H locs → lv_has ls 11 [(4, .ref (zt_ad G k4))] → W p l e (zt_R 3 74) s m ([.ref (zt_ad G k0), .ref (zt_ad G k1), .int x2, .int x3, .ref (zt_ad G k4)] : List Value).toArray below meth c H locs 0 0 (MQ below (zt_Cv G σ1) ([.ref (zt_ad G k0), .ref (zt_ad G k1), .int x2, .int x3, .ref (zt_ad G k4)] : List Value).toArray s 0 0 (zt_A G)) (F0 m 207 ls []) := by
    intro σ H locs ls hf hP hS hl
    unfold f_X6_answer_207 at hf
    refine lv_aload hx hb dX6_answer_207 (lv_at hl 0 rfl) ?_
    refine lv_iconst (v := 5) hx hb dX6_answer_209 (by decide) ?_
    refine lv_iconst (v := (-1)) hx hb dX6_answer_210 (by decide) ?_
    refine lv_iconst (v := (-1)) hx hb dX6_answer_211 (by decide) ?_
    refine lv_iconst (v := 0) hx hb dX6_answer_212 (by decide) ?_
    obtain ⟨σ16, hvv15, hf⟩ := zt_bd_some hf
    refine va_callv (va_runV (As := [.int 5, .int (-1), .int (-1), .int 0]) (rest := []) ⟨hx, hb, hml, hown, hts⟩ (m_X0_tell l G hk4 (σ := σ) hvv15) (cwV 4 hts gX6_answer_X0_tell rfl rfl rfl zh_X0_tell ⟨Nat.le_of_ble_eq_true rfl, Nat.le_of_ble_eq_true rfl⟩) ⟨zt_blind, va_recv hK hP (ci := 0) (q0 := k4) rfl (zt_a0 hk4), fun U hU hW => ⟨rfl, zt_go hE hP hS zt_id hU hW⟩⟩ rfl rfl hl.1 rfl (lv_room (Nat.le_of_ble_eq_true rfl)) dX6_answer_213 ⟨Nat.zero_le _, Nat.zero_le _⟩) hS (fun _ _ h => h) (fun _ h => h) (fun u t H locs ht hvm hw hB _ _ hS => ?_)
    have hB : zt_B G u t := hB; rw [hw] at hB; have hP := zt_B.P hB ht
    exact W.vret hx hb hr (fun t ht hW => ⟨⟨_, rfl, (Option.some.inj hf), zt_go hE hP hS zt_id ht hW⟩, hS.F ht⟩) hS.2.2 dX6_answer_216
  have B144 : ∀ (rc10 : zt_St → Int32 → Int32 → Int32 → Int32 → Option (zt_St)) (hrc10 : ∀ (σ : zt_St) (u3 : Int32) (u5 : Int32) (u6 : Int32) (u7 : Int32) (H : Heap) (locs : List Loc) (ls : Array Slot), rc10 σ u3 u5 u6 u7 = some σ1 → va_P (zt_D G) vwCl (zt_ww G σ) H → va_S (zt_A G) s.heap H locs → lv_has ls 11 [(0, .ref (zt_ad G k0)), (1, .ref (zt_ad G k1)), (3, .int u3), (4, .ref (zt_ad G k4)), (5, .int u5), (6, .int u6), (7, .int u7)] → W p l e (zt_R 3 74) s m ([.ref (zt_ad G k0), .ref (zt_ad G k1), .int x2, .int x3, .ref (zt_ad G k4)] : List Value).toArray below meth c H locs 0 0 (MQ below (zt_Cv G σ1) ([.ref (zt_ad G k0), .ref (zt_ad G k1), .int x2, .int x3, .ref (zt_ad G k4)] : List Value).toArray s 0 0 (zt_A G)) (F0 m 10 ls [])), ∀ (σ : zt_St) (u3 : Int32) (u6 : Int32) (u7 : Int32) (u8 : Int32) (u9 : Int32) (H : Heap) (locs : List Loc) (ls : Array Slot), f_X6_answer_144 k0 k1 k4 rc10 σ u3 u6 u7 u8 u9 = some σ1 → va_P (zt_D G) vwCl (zt_ww G σ) H → va_S (zt_A G) s.heap H locs → lv_has ls 11 [(0, .ref (zt_ad G k0)), (1, .ref (zt_ad G k1)), (3, .int u3), (4, .ref (zt_ad G k4)), (6, .int u6), (7, .int u7), (8, .int u8), (9, .int u9)] → W p l e (zt_R 3 74) s m ([.ref (zt_ad G k0), .ref (zt_ad G k1), .int x2, .int x3, .ref (zt_ad G k4)] : List Value).toArray below meth c H locs 0 0 (MQ below (zt_Cv G σ1) ([.ref (zt_ad G k0), .ref (zt_ad G k1), .int x2, .int x3, .ref (zt_ad G k4)] : List Value).toArray s 0 0 (zt_A G)) (F0 m 144 ls []) := by
    intro rc10 hrc10 σ u3 u6 u7 u8 u9 H locs ls hf hP hS hl
    unfold f_X6_answer_144 at hf
    refine lv_iload hx hb dX6_answer_144 (lv_at hl 4 rfl) ?_
    refine lv_aload_n hx hb dX6_answer_146 rfl (lv_at hl 1 rfl) ?_
    refine lv_iload hx hb dX6_answer_147 (lv_at hl 6 rfl) ?_
    obtain ⟨v28, hvv28, hf⟩ := zt_bd_some hf
    refine va_calli (va_runV (As := [.int u8]) (rest := [.int u6]) ⟨hx, hb, hml, hown, hts⟩ (m_X4_lifeAt l G hk1 (σ := σ) hvv28) (cwV 1 hts gX6_answer_X4_lifeAt rfl rfl rfl zh_X4_lifeAt ⟨Nat.le_of_ble_eq_true rfl, Nat.le_of_ble_eq_true rfl⟩) ⟨zt_blind, va_recv hK hP (ci := 3) (q0 := k1) rfl (zt_a3 hk1), fun U hU hW => ⟨rfl, zt_go hE hP hS zt_id hU hW⟩⟩ rfl rfl hl.1 rfl (lv_room (Nat.le_of_ble_eq_true rfl)) dX6_answer_149 ⟨Nat.zero_le _, Nat.zero_le _⟩) hS (fun _ _ h => h) (fun _ h => h) (fun r u t H locs ht hvm hw hB _ _ hS => ?_)
    rw [hw.1]; have hB : zt_B G u t := hB; rw [hw.2] at hB; have hP := zt_B.P hB ht
    refine va_mmin hx hb (hml.trans hl.1.symm) hown (hts (.methodLink RX6 142 Lib.Math.min.name) (List.mem_cons_of_mem _ (List.mem_append_left _ (List.mem_append_left _ (List.mem_append_left _ (List.mem_append_left _ (List.mem_of_getElem? (i := 0) rfl))))))) (hts (.static Lib.Math.min.name) (List.mem_cons_of_mem _ (List.mem_append_left _ (List.mem_append_left _ (List.mem_append_left _ (List.mem_append_left _ (List.mem_of_getElem? (i := 1) rfl))))))) (hts (.initialized "java/lang/Math") (List.mem_cons_of_mem _ (List.mem_append_left _ (List.mem_append_left _ (List.mem_append_left _ (List.mem_append_left _ (List.mem_of_getElem? (i := 2) rfl))))))) (hts (.code Lib.Math.min.name Lib.Math.min.code 2 (some .int)) (List.mem_cons_of_mem _ (List.mem_append_left _ (List.mem_append_left _ (List.mem_append_left _ (List.mem_append_left _ (List.mem_of_getElem? (i := 3) rfl))))))) (Nat.le_of_ble_eq_true rfl) (Nat.le_of_ble_eq_true rfl) (Nat.zero_le _) (Nat.zero_le _) dX6_answer_152 ?_
    refine lv_istore (lv' := [(6, .int (if v28 < u6 then v28 else u6)), (0, .ref (zt_ad G k0)), (1, .ref (zt_ad G k1)), (3, .int u3), (4, .ref (zt_ad G k4)), (7, .int u7), (8, .int u8), (9, .int u9)]) hx hb dX6_answer_155 hl (by decide) rfl (fun ls hl => ?_)
    refine lv_iload hx hb dX6_answer_157 (lv_at hl 7 rfl) ?_
    refine lv_iconst (v := (-1)) hx hb dX6_answer_159 (by decide) ?_
    refine lv_icmp_eq (tgt := 207) hx hb dX6_answer_160 (by decide) (fun c30 => ?_) (fun c30 => ?_)
    · have hf := (if_pos c30).symm.trans hf
      exact B207 σ _ _ _ hf hP hS (lv_sub hl [4] rfl)
    · have hf := (if_neg c30).symm.trans hf
      refine lv_iload hx hb dX6_answer_163 (lv_at hl 5 rfl) ?_
      refine lv_bipush (v := 9) hx hb dX6_answer_165 (by decide +kernel) ?_
      refine lv_icmp_ne (tgt := 173) hx hb dX6_answer_167 (by decide) (fun c31 => ?_) (fun c31 => ?_)
      · have hf := (if_neg c31).symm.trans hf
        refine lv_iload hx hb dX6_answer_173 (lv_at hl 7 rfl) ?_
        refine lv_istore (lv' := [(5, .int u9), (6, .int (if v28 < u6 then v28 else u6)), (0, .ref (zt_ad G k0)), (1, .ref (zt_ad G k1)), (3, .int u3), (4, .ref (zt_ad G k4)), (7, .int u7), (8, .int u8), (9, .int u9)]) hx hb dX6_answer_175 hl (by decide) rfl (fun ls hl => ?_)
        refine lv_iload hx hb dX6_answer_177 (lv_at hl 0 rfl) ?_
        refine lv_aload_n hx hb dX6_answer_179 rfl (lv_at hl 2 rfl) ?_
        refine va_get (D := zt_D G) (ci := 5) (v := .int (σ k0 0)) (C := RX6) (T := TX6) (N := 11) hx hb hts inX6 hown hK hP k0 (zt_a5 hk0) rfl 0 (by decide) fl33 (fun _ h9 => h9) rfl dX6_answer_180 ?_
        obtain ⟨v32, hvv32, hf⟩ := zt_bd_some hf
        refine va_calli (va_runS (As := [.int u9, .int (σ k0 0)]) (rest := []) ⟨hx, hb, hml, hown, hts⟩ (m_X3_isUnder l G (σ := σ) hvv32) (va_cwS 2 hts gX6_answer_X3_isUnder rfl rfl rfl zh_X3_isUnder ⟨Nat.le_of_ble_eq_true rfl, Nat.le_of_ble_eq_true rfl⟩) ⟨zt_blind, fun U hU hW => ⟨rfl, zt_go hE hP hS zt_id hU hW⟩⟩ rfl rfl hl.1 rfl (lv_room (Nat.le_of_ble_eq_true rfl)) dX6_answer_183 ⟨Nat.zero_le _, Nat.zero_le _⟩) hS (fun _ _ h => h) (fun _ h => h) (fun r u t H locs ht hvm hw hB _ _ hS => ?_)
        rw [hw.1]; have hB : zt_B G u t := hB; rw [hw.2] at hB; have hP := zt_B.P hB ht
        refine lv_if_ne (tgt := 201) hx hb dX6_answer_186 (by decide) (fun c34 => ?_) (fun c34 => ?_)
        · have hf := (if_neg c34).symm.trans hf
          refine lv_iinc (v := (u7 + 1)) (lv' := [(7, .int (u7 + 1)), (5, .int u9), (6, .int (if v28 < u6 then v28 else u6)), (0, .ref (zt_ad G k0)), (1, .ref (zt_ad G k1)), (3, .int u3), (4, .ref (zt_ad G k4)), (8, .int u8), (9, .int u9)]) hx hb dX6_answer_201 hl (k := 6) rfl rfl (by decide) rfl (fun ls hl => ?_)
          refine lv_goto (tgt := 10) hx hb dX6_answer_204 (by decide) ?_
          exact hrc10 σ u3 u9 (if v28 < u6 then v28 else u6) (u7 + 1) _ _ _ hf hP hS (lv_sub hl [3, 4, 5, 6, 1, 2, 0] rfl)
        · have hf := (if_pos c34).symm.trans hf
          refine lv_aload hx hb dX6_answer_189 (lv_at hl 5 rfl) ?_
          refine lv_iconst (v := 4) hx hb dX6_answer_191 (by decide) ?_
          refine lv_iconst (v := (-1)) hx hb dX6_answer_192 (by decide) ?_
          refine lv_iload hx hb dX6_answer_193 (lv_at hl 0 rfl) ?_
          refine lv_iload hx hb dX6_answer_195 (lv_at hl 1 rfl) ?_
          obtain ⟨σ36, hvv35, hf⟩ := zt_bd_some hf
          refine va_callv (va_runV (As := [.int 4, .int (-1), .int u9, .int (if v28 < u6 then v28 else u6)]) (rest := []) ⟨hx, hb, hml, hown, hts⟩ (m_X0_tell l G hk4 (σ := σ) hvv35) (cwV 4 hts gX6_answer_X0_tell rfl rfl rfl zh_X0_tell ⟨Nat.le_of_ble_eq_true rfl, Nat.le_of_ble_eq_true rfl⟩) ⟨zt_blind, va_recv hK hP (ci := 0) (q0 := k4) rfl (zt_a0 hk4), fun U hU hW => ⟨rfl, zt_go hE hP hS zt_id hU hW⟩⟩ rfl rfl hl.1 rfl (lv_room (Nat.le_of_ble_eq_true rfl)) dX6_answer_197 ⟨Nat.zero_le _, Nat.zero_le _⟩) hS (fun _ _ h => h) (fun _ h => h) (fun u t H locs ht hvm hw hB _ _ hS => ?_)
          have hB : zt_B G u t := hB; rw [hw] at hB; have hP := zt_B.P hB ht
          exact W.vret hx hb hr (fun t ht hW => ⟨⟨_, rfl, (Option.some.inj hf), zt_go hE hP hS zt_id ht hW⟩, hS.F ht⟩) hS.2.2 dX6_answer_200
      · have hf := (if_pos c31).symm.trans hf
        refine lv_goto (tgt := 207) hx hb dX6_answer_170 (by decide) ?_
        exact B207 σ _ _ _ hf hP hS (lv_sub hl [4] rfl)
  have B121 : ∀ (σ : zt_St) (u3 : Int32) (u5 : Int32) (u6 : Int32) (u10 : Int32) (H : Heap) (locs : List Loc) (ls : Array Slot), f_X6_answer_121 k0 k1 k4 σ u3 u5 u6 u10 = some σ1 → va_P (zt_D G) vwCl (zt_ww G σ) H → va_S (zt_A G) s.heap H locs → lv_has ls 11 [(0, .ref (zt_ad G k0)), (1, .ref (zt_ad G k1)), (3, .int u3), (4, .ref (zt_ad G k4)), (5, .int u5), (6, .int u6), (10, .int u10)] → W p l e (zt_R 3 74) s m ([.ref (zt_ad G k0), .ref (zt_ad G k1), .int x2, .int x3, .ref (zt_ad G k4)] : List Value).toArray below meth c H locs 0 0 (MQ below (zt_Cv G σ1) ([.ref (zt_ad G k0), .ref (zt_ad G k1), .int x2, .int x3, .ref (zt_ad G k4)] : List Value).toArray s 0 0 (zt_A G)) (F0 m 121 ls []) := by
    intro σ u3 u5 u6 u10 H locs ls hf hP hS hl
    unfold f_X6_answer_121 at hf
    refine lv_aload_n hx hb dX6_answer_121 rfl (lv_at hl 0 rfl) ?_
    refine lv_aload_n hx hb dX6_answer_122 rfl (lv_at hl 1 rfl) ?_
    refine lv_iload hx hb dX6_answer_123 (lv_at hl 6 rfl) ?_
    refine lv_iload hx hb dX6_answer_125 (lv_at hl 4 rfl) ?_
    refine lv_iload_n hx hb dX6_answer_127 rfl (lv_at hl 2 rfl) ?_
    refine lv_iload hx hb dX6_answer_128 (lv_at hl 5 rfl) ?_
    refine lv_aload hx hb dX6_answer_130 (lv_at hl 3 rfl) ?_
    obtain ⟨σ38, hvv37, hf⟩ := zt_bd_some hf
    refine va_callv (va_runV (As := [.ref (zt_ad G k1), .int u10, .int u5, .int u3, .int u6, .ref (zt_ad G k4)]) (rest := []) ⟨hx, hb, hml, hown, hts⟩ (m_X6_answerAt l G hk0 hk1 hk4 (σ := σ) hvv37) (cwV 6 hts gX6_answer_X6_answerAt rfl rfl rfl zh_X6_answerAt ⟨Nat.le_of_ble_eq_true rfl, Nat.le_of_ble_eq_true rfl⟩) ⟨zt_blind, va_recv hK hP (ci := 5) (q0 := k0) rfl (zt_a5 hk0), fun U hU hW => ⟨rfl, zt_go hE hP hS zt_id hU hW⟩⟩ rfl rfl hl.1 rfl (lv_room (Nat.le_of_ble_eq_true rfl)) dX6_answer_132 ⟨Nat.zero_le _, Nat.zero_le _⟩) hS (fun _ _ h => h) (fun _ h => h) (fun u t H locs ht hvm hw hB _ _ hS => ?_)
    have hB : zt_B G u t := hB; rw [hw] at hB; have hP := zt_B.P hB ht
    exact W.vret hx hb hr (fun t ht hW => ⟨⟨_, rfl, (Option.some.inj hf), zt_go hE hP hS zt_id ht hW⟩, hS.F ht⟩) hS.2.2 dX6_answer_135
  have B84 : ∀ (rc10 : zt_St → Int32 → Int32 → Int32 → Int32 → Option (zt_St)) (hrc10 : ∀ (σ : zt_St) (u3 : Int32) (u5 : Int32) (u6 : Int32) (u7 : Int32) (H : Heap) (locs : List Loc) (ls : Array Slot), rc10 σ u3 u5 u6 u7 = some σ1 → va_P (zt_D G) vwCl (zt_ww G σ) H → va_S (zt_A G) s.heap H locs → lv_has ls 11 [(0, .ref (zt_ad G k0)), (1, .ref (zt_ad G k1)), (3, .int u3), (4, .ref (zt_ad G k4)), (5, .int u5), (6, .int u6), (7, .int u7)] → W p l e (zt_R 3 74) s m ([.ref (zt_ad G k0), .ref (zt_ad G k1), .int x2, .int x3, .ref (zt_ad G k4)] : List Value).toArray below meth c H locs 0 0 (MQ below (zt_Cv G σ1) ([.ref (zt_ad G k0), .ref (zt_ad G k1), .int x2, .int x3, .ref (zt_ad G k4)] : List Value).toArray s 0 0 (zt_A G)) (F0 m 10 ls [])), ∀ (σ : zt_St) (y0 : Int32) (u3 : Int32) (u5 : Int32) (u6 : Int32) (u7 : Int32) (u8 : Int32) (H : Heap) (locs : List Loc) (ls : Array Slot), f_X6_answer_84 k0 k1 k4 rc10 σ y0 u3 u5 u6 u7 u8 = some σ1 → va_P (zt_D G) vwCl (zt_ww G σ) H → va_S (zt_A G) s.heap H locs → lv_has ls 11 [(0, .ref (zt_ad G k0)), (1, .ref (zt_ad G k1)), (3, .int u3), (4, .ref (zt_ad G k4)), (5, .int u5), (6, .int u6), (7, .int u7), (8, .int u8)] → W p l e (zt_R 3 74) s m ([.ref (zt_ad G k0), .ref (zt_ad G k1), .int x2, .int x3, .ref (zt_ad G k4)] : List Value).toArray below meth c H locs 0 0 (MQ below (zt_Cv G σ1) ([.ref (zt_ad G k0), .ref (zt_ad G k1), .int x2, .int x3, .ref (zt_ad G k4)] : List Value).toArray s 0 0 (zt_A G)) (F0 m 84 ls [.int y0]) := by
    intro rc10 hrc10 σ y0 u3 u5 u6 u7 u8 H locs ls hf hP hS hl
    unfold f_X6_answer_84 at hf
    refine lv_istore (lv' := [(9, .int y0), (0, .ref (zt_ad G k0)), (1, .ref (zt_ad G k1)), (3, .int u3), (4, .ref (zt_ad G k4)), (5, .int u5), (6, .int u6), (7, .int u7), (8, .int u8)]) hx hb dX6_answer_84 hl (by decide) rfl (fun ls hl => ?_)
    refine lv_iload hx hb dX6_answer_86 (lv_at hl 8 rfl) ?_
    refine lv_iconst (v := (-1)) hx hb dX6_answer_88 (by decide) ?_
    refine lv_icmp_ne (tgt := 144) hx hb dX6_answer_89 (by decide) (fun c17 => ?_) (fun c17 => ?_)
    · have hf := (if_neg c17).symm.trans hf
      exact B144 rc10 hrc10 σ u3 u6 u7 u8 y0 _ _ _ hf hP hS (lv_sub hl [1, 2, 3, 4, 6, 7, 8, 0] rfl)
    · have hf := (if_pos c17).symm.trans hf
      refine lv_aload_n hx hb dX6_answer_92 rfl (lv_at hl 1 rfl) ?_
      refine lv_aload_n hx hb dX6_answer_93 rfl (lv_at hl 2 rfl) ?_
      refine lv_iload hx hb dX6_answer_94 (lv_at hl 5 rfl) ?_
      obtain ⟨v18, hvv18, hf⟩ := zt_bd_some hf
      refine va_calli (va_runV (As := [.ref (zt_ad G k1), .int u5]) (rest := []) ⟨hx, hb, hml, hown, hts⟩ (m_X6_placeFor l G hk0 hk1 (σ := σ) hvv18) (cwV 2 hts gX6_answer_X6_placeFor rfl rfl rfl zh_X6_placeFor ⟨Nat.le_of_ble_eq_true rfl, Nat.le_of_ble_eq_true rfl⟩) ⟨zt_blind, va_recv hK hP (ci := 5) (q0 := k0) rfl (zt_a5 hk0), fun U hU hW => ⟨rfl, zt_go hE hP hS zt_id hU hW⟩⟩ rfl rfl hl.1 rfl (lv_room (Nat.le_of_ble_eq_true rfl)) dX6_answer_96 ⟨Nat.zero_le _, Nat.zero_le _⟩) hS (fun _ _ h => h) (fun _ h => h) (fun r u t H locs ht hvm hw hB _ _ hS => ?_)
      rw [hw.1]; have hB : zt_B G u t := hB; rw [hw.2] at hB; have hP := zt_B.P hB ht
      refine lv_istore (lv' := [(10, .int v18), (9, .int y0), (0, .ref (zt_ad G k0)), (1, .ref (zt_ad G k1)), (3, .int u3), (4, .ref (zt_ad G k4)), (5, .int u5), (6, .int u6), (7, .int u7), (8, .int u8)]) hx hb dX6_answer_99 hl (by decide) rfl (fun ls hl => ?_)
      refine lv_aload_n hx hb dX6_answer_101 rfl (lv_at hl 3 rfl) ?_
      refine lv_iload hx hb dX6_answer_102 (lv_at hl 0 rfl) ?_
      refine lv_iconst (v := 1) hx hb dX6_answer_104 (by decide) ?_
      obtain ⟨v20, hvv20, hf⟩ := zt_bd_some hf
      refine va_calli (va_runV (As := [.int v18, .int 1]) (rest := []) ⟨hx, hb, hml, hown, hts⟩ (m_X4_rowOf l G hk1 (σ := σ) hvv20) (cwV 2 hts gX6_answer_X4_rowOf rfl rfl rfl zh_X4_rowOf ⟨Nat.le_of_ble_eq_true rfl, Nat.le_of_ble_eq_true rfl⟩) ⟨zt_blind, va_recv hK hP (ci := 3) (q0 := k1) rfl (zt_a3 hk1), fun U hU hW => ⟨rfl, zt_go hE hP hS zt_id hU hW⟩⟩ rfl rfl hl.1 rfl (lv_room (Nat.le_of_ble_eq_true rfl)) dX6_answer_105 ⟨Nat.zero_le _, Nat.zero_le _⟩) hS (fun _ _ h => h) (fun _ h => h) (fun r u t H locs ht hvm hw hB _ _ hS => ?_)
      rw [hw.1]; have hB : zt_B G u t := hB; rw [hw.2] at hB; have hP := zt_B.P hB ht
      refine lv_istore (lv' := [(8, .int v20), (10, .int v18), (9, .int y0), (0, .ref (zt_ad G k0)), (1, .ref (zt_ad G k1)), (3, .int u3), (4, .ref (zt_ad G k4)), (5, .int u5), (6, .int u6), (7, .int u7)]) hx hb dX6_answer_108 hl (by decide) rfl (fun ls hl => ?_)
      refine lv_iload hx hb dX6_answer_110 (lv_at hl 0 rfl) ?_
      refine lv_iconst (v := (-1)) hx hb dX6_answer_112 (by decide) ?_
      refine lv_icmp_eq (tgt := 121) hx hb dX6_answer_113 (by decide) (fun c22 => ?_) (fun c22 => ?_)
      · have hf := (if_pos c22).symm.trans hf
        exact B121 σ u3 u5 u6 v18 _ _ _ hf hP hS (lv_sub hl [3, 4, 5, 6, 7, 8, 1] rfl)
      · have hf := (if_neg c22).symm.trans hf
        refine lv_iload_n hx hb dX6_answer_116 rfl (lv_at hl 5 rfl) ?_
        refine lv_iconst (v := 1) hx hb dX6_answer_117 (by decide) ?_
        refine lv_icmp_ne (tgt := 136) hx hb dX6_answer_118 (by decide) (fun c23 => ?_) (fun c23 => ?_)
        · have hf := (if_neg c23).symm.trans hf
          refine lv_aload_n hx hb dX6_answer_136 rfl (lv_at hl 4 rfl) ?_
          refine lv_iload hx hb dX6_answer_137 (lv_at hl 0 rfl) ?_
          obtain ⟨v24, hvv24, hf⟩ := zt_bd_some hf
          refine va_calli (va_runV (As := [.int v20]) (rest := []) ⟨hx, hb, hml, hown, hts⟩ (m_X4_numberAt l G hk1 (σ := σ) hvv24) (cwV 1 hts gX6_answer_X4_numberAt rfl rfl rfl zh_X4_numberAt ⟨Nat.le_of_ble_eq_true rfl, Nat.le_of_ble_eq_true rfl⟩) ⟨zt_blind, va_recv hK hP (ci := 3) (q0 := k1) rfl (zt_a3 hk1), fun U hU hW => ⟨rfl, zt_go hE hP hS zt_id hU hW⟩⟩ rfl rfl hl.1 rfl (lv_room (Nat.le_of_ble_eq_true rfl)) dX6_answer_139 ⟨Nat.zero_le _, Nat.zero_le _⟩) hS (fun _ _ h => h) (fun _ h => h) (fun r u t H locs ht hvm hw hB _ _ hS => ?_)
          rw [hw.1]; have hB : zt_B G u t := hB; rw [hw.2] at hB; have hP := zt_B.P hB ht
          refine lv_istore (lv' := [(9, .int v24), (8, .int v20), (10, .int v18), (0, .ref (zt_ad G k0)), (1, .ref (zt_ad G k1)), (3, .int u3), (4, .ref (zt_ad G k4)), (5, .int u5), (6, .int u6), (7, .int u7)]) hx hb dX6_answer_142 hl (by decide) rfl (fun ls hl => ?_)
          exact B144 rc10 hrc10 σ u3 u6 u7 v20 v24 _ _ _ hf hP hS (lv_sub hl [3, 4, 5, 6, 8, 9, 1, 0] rfl)
        · have hf := (if_pos c23).symm.trans hf
          exact B121 σ u3 u5 u6 v18 _ _ _ hf hP hS (lv_sub hl [3, 4, 5, 6, 7, 8, 1] rfl)
  have B43 : ∀ (σ : zt_St) (y0 : Int32) (y1 : Int32) (y2 : Int32) (H : Heap) (locs : List Loc) (ls : Array Slot), f_X6_answer_43 k0 k1 k4 σ y0 y1 y2 = some σ1 → va_P (zt_D G) vwCl (zt_ww G σ) H → va_S (zt_A G) s.heap H locs → lv_has ls 11 [(4, .ref (zt_ad G k4))] → W p l e (zt_R 3 74) s m ([.ref (zt_ad G k0), .ref (zt_ad G k1), .int x2, .int x3, .ref (zt_ad G k4)] : List Value).toArray below meth c H locs 0 0 (MQ below (zt_Cv G σ1) ([.ref (zt_ad G k0), .ref (zt_ad G k1), .int x2, .int x3, .ref (zt_ad G k4)] : List Value).toArray s 0 0 (zt_A G)) (F0 m 43 ls [.int y0, .int y1, .int y2, .ref (zt_ad G k1)]) := by
    intro σ y0 y1 y2 H locs ls hf hP hS hl
    unfold f_X6_answer_43 at hf
    refine lv_aload hx hb dX6_answer_43 (lv_at hl 0 rfl) ?_
    obtain ⟨σ27, hvv26, hf⟩ := zt_bd_some hf
    refine va_callv (va_runS (As := [.ref (zt_ad G k1), .int y2, .int y1, .int y0, .ref (zt_ad G k4)]) (rest := []) ⟨hx, hb, hml, hown, hts⟩ (m_X6_answerCutOff l G hk1 hk4 (σ := σ) hvv26) (va_cwS 5 hts gX6_answer_X6_answerCutOff rfl rfl rfl zh_X6_answerCutOff ⟨Nat.le_of_ble_eq_true rfl, Nat.le_of_ble_eq_true rfl⟩) ⟨zt_blind, fun U hU hW => ⟨rfl, zt_go hE hP hS zt_id hU hW⟩⟩ rfl rfl hl.1 rfl (lv_room (Nat.le_of_ble_eq_true rfl)) dX6_answer_45 ⟨Nat.zero_le _, Nat.zero_le _⟩) hS (fun _ _ h => h) (fun _ h => h) (fun u t H locs ht hvm hw hB _ _ hS => ?_)
    have hB : zt_B G u t := hB; rw [hw] at hB; have hP := zt_B.P hB ht
    exact W.vret hx hb hr (fun t ht hW => ⟨⟨_, rfl, (Option.some.inj hf), zt_go hE hP hS zt_id ht hW⟩, hS.F ht⟩) hS.2.2 dX6_answer_48
  have B10 : ∀ (n : Nat), ∀ (σ : zt_St) (u3 : Int32) (u5 : Int32) (u6 : Int32) (u7 : Int32) (H : Heap) (locs : List Loc) (ls : Array Slot), f_X6_answer_10 k0 k1 k4 n σ u3 u5 u6 u7 = some σ1 → va_P (zt_D G) vwCl (zt_ww G σ) H → va_S (zt_A G) s.heap H locs → lv_has ls 11 [(0, .ref (zt_ad G k0)), (1, .ref (zt_ad G k1)), (3, .int u3), (4, .ref (zt_ad G k4)), (5, .int u5), (6, .int u6), (7, .int u7)] → W p l e (zt_R 3 74) s m ([.ref (zt_ad G k0), .ref (zt_ad G k1), .int x2, .int x3, .ref (zt_ad G k4)] : List Value).toArray below meth c H locs 0 0 (MQ below (zt_Cv G σ1) ([.ref (zt_ad G k0), .ref (zt_ad G k1), .int x2, .int x3, .ref (zt_ad G k4)] : List Value).toArray s 0 0 (zt_A G)) (F0 m 10 ls []) := by
    intro n
    induction n with
    | zero => intro σ u3 u5 u6 u7 H locs ls hf; exact nomatch hf
    | succ n hrc10 =>
      intro σ u3 u5 u6 u7 H locs ls hf hP hS hl
      generalize hrcg : f_X6_answer_10 k0 k1 k4 n = rc10 at hrc10
      have hf : f_X6_answer_10b k0 k1 k4 rc10 σ u3 u5 u6 u7 = some σ1 := by rw [← hrcg]; exact hf
      unfold f_X6_answer_10b at hf
      refine lv_iload hx hb dX6_answer_10 (lv_at hl 6 rfl) ?_
      refine lv_bipush (v := 9) hx hb dX6_answer_12 (by decide +kernel) ?_
      refine lv_icmp_gt (tgt := 207) hx hb dX6_answer_14 (by decide) (fun c1 => ?_) (fun c1 => ?_)
      · have hf := (if_pos c1).symm.trans hf
        exact B207 σ _ _ _ hf hP hS (lv_sub hl [3] rfl)
      · have hf := (if_neg c1).symm.trans hf
        refine lv_aload_n hx hb dX6_answer_17 rfl (lv_at hl 1 rfl) ?_
        refine lv_iload hx hb dX6_answer_18 (lv_at hl 4 rfl) ?_
        refine lv_iload_n hx hb dX6_answer_20 rfl (lv_at hl 2 rfl) ?_
        obtain ⟨v2, hvv2, hf⟩ := zt_bd_some hf
        refine va_calli (va_runS (As := [.ref (zt_ad G k1), .int u5, .int u3]) (rest := []) ⟨hx, hb, hml, hown, hts⟩ (m_X6_isCutOff l G hk1 (σ := σ) hvv2) (va_cwS 3 hts gX6_answer_X6_isCutOff rfl rfl rfl zh_X6_isCutOff ⟨Nat.le_of_ble_eq_true rfl, Nat.le_of_ble_eq_true rfl⟩) ⟨zt_blind, fun U hU hW => ⟨rfl, zt_go hE hP hS zt_id hU hW⟩⟩ rfl rfl hl.1 rfl (lv_room (Nat.le_of_ble_eq_true rfl)) dX6_answer_21 ⟨Nat.zero_le _, Nat.zero_le _⟩) hS (fun _ _ h => h) (fun _ h => h) (fun r u t H locs ht hvm hw hB _ _ hS => ?_)
        rw [hw.1]; have hB : zt_B G u t := hB; rw [hw.2] at hB; have hP := zt_B.P hB ht
        refine lv_if_eq (tgt := 49) hx hb dX6_answer_24 (by decide) (fun c4 => ?_) (fun c4 => ?_)
        · have hf := (if_pos c4).symm.trans hf
          refine lv_aload_n hx hb dX6_answer_49 rfl (lv_at hl 1 rfl) ?_
          refine lv_iload hx hb dX6_answer_50 (lv_at hl 4 rfl) ?_
          obtain ⟨v5, hvv5, hf⟩ := zt_bd_some hf
          refine va_calli (va_runV (As := [.int u5]) (rest := []) ⟨hx, hb, hml, hown, hts⟩ (m_X4_treeOver l G hk1 (σ := σ) hvv5) (cwV 1 hts gX6_answer_X4_treeOver rfl rfl rfl zh_X4_treeOver ⟨Nat.le_of_ble_eq_true rfl, Nat.le_of_ble_eq_true rfl⟩) ⟨zt_blind, va_recv hK hP (ci := 3) (q0 := k1) rfl (zt_a3 hk1), fun U hU hW => ⟨rfl, zt_go hE hP hS zt_id hU hW⟩⟩ rfl rfl hl.1 rfl (lv_room (Nat.le_of_ble_eq_true rfl)) dX6_answer_52 ⟨Nat.zero_le _, Nat.zero_le _⟩) hS (fun _ _ h => h) (fun _ h => h) (fun r u t H locs ht hvm hw hB _ _ hS => ?_)
          rw [hw.1]; have hB : zt_B G u t := hB; rw [hw.2] at hB; have hP := zt_B.P hB ht
          refine lv_istore (lv' := [(8, .int v5), (0, .ref (zt_ad G k0)), (1, .ref (zt_ad G k1)), (3, .int u3), (4, .ref (zt_ad G k4)), (5, .int u5), (6, .int u6), (7, .int u7)]) hx hb dX6_answer_55 hl (by decide) rfl (fun ls hl => ?_)
          refine lv_iload hx hb dX6_answer_57 (lv_at hl 0 rfl) ?_
          refine lv_iconst (v := (-1)) hx hb dX6_answer_59 (by decide) ?_
          refine lv_icmp_ne (tgt := 67) hx hb dX6_answer_60 (by decide) (fun c7 => ?_) (fun c7 => ?_)
          · have hf := (if_neg c7).symm.trans hf
            refine lv_iload hx hb dX6_answer_67 (lv_at hl 5 rfl) ?_
            refine lv_aload_n hx hb dX6_answer_69 rfl (lv_at hl 2 rfl) ?_
            refine lv_iload hx hb dX6_answer_70 (lv_at hl 0 rfl) ?_
            obtain ⟨v8, hvv8, hf⟩ := zt_bd_some hf
            refine va_calli (va_runV (As := [.int v5]) (rest := [.int u5]) ⟨hx, hb, hml, hown, hts⟩ (m_X4_placeAt l G hk1 (σ := σ) hvv8) (cwV 1 hts gX6_answer_X4_placeAt rfl rfl rfl zh_X4_placeAt ⟨Nat.le_of_ble_eq_true rfl, Nat.le_of_ble_eq_true rfl⟩) ⟨zt_blind, va_recv hK hP (ci := 3) (q0 := k1) rfl (zt_a3 hk1), fun U hU hW => ⟨rfl, zt_go hE hP hS zt_id hU hW⟩⟩ rfl rfl hl.1 rfl (lv_room (Nat.le_of_ble_eq_true rfl)) dX6_answer_72 ⟨Nat.zero_le _, Nat.zero_le _⟩) hS (fun _ _ h => h) (fun _ h => h) (fun r u t H locs ht hvm hw hB _ _ hS => ?_)
            rw [hw.1]; have hB : zt_B G u t := hB; rw [hw.2] at hB; have hP := zt_B.P hB ht
            refine lv_aload_n hx hb dX6_answer_75 rfl (lv_at hl 2 rfl) ?_
            refine lv_iload hx hb dX6_answer_76 (lv_at hl 0 rfl) ?_
            obtain ⟨v10, hvv10, hf⟩ := zt_bd_some hf
            refine va_calli (va_runV (As := [.int v5]) (rest := [.int v8, .int u5]) ⟨hx, hb, hml, hown, hts⟩ (m_X4_numberAt l G hk1 (σ := σ) hvv10) (cwV 1 hts gX6_answer_X4_numberAt rfl rfl rfl zh_X4_numberAt ⟨Nat.le_of_ble_eq_true rfl, Nat.le_of_ble_eq_true rfl⟩) ⟨zt_blind, va_recv hK hP (ci := 3) (q0 := k1) rfl (zt_a3 hk1), fun U hU hW => ⟨rfl, zt_go hE hP hS zt_id hU hW⟩⟩ rfl rfl hl.1 rfl (lv_room (Nat.le_of_ble_eq_true rfl)) dX6_answer_78 ⟨Nat.zero_le _, Nat.zero_le _⟩) hS (fun _ _ h => h) (fun _ h => h) (fun r u t H locs ht hvm hw hB _ _ hS => ?_)
            rw [hw.1]; have hB : zt_B G u t := hB; rw [hw.2] at hB; have hP := zt_B.P hB ht
            obtain ⟨v12, hvv12, hf⟩ := zt_bd_some hf
            refine va_calli (va_runS (As := [.int u5, .int v8, .int v10]) (rest := []) ⟨hx, hb, hml, hown, hts⟩ (m_X3_moved l G (σ := σ) hvv12) (va_cwS 3 hts gX6_answer_X3_moved rfl rfl rfl zh_X3_moved ⟨Nat.le_of_ble_eq_true rfl, Nat.le_of_ble_eq_true rfl⟩) ⟨zt_blind, fun U hU hW => ⟨rfl, zt_go hE hP hS zt_id hU hW⟩⟩ rfl rfl hl.1 rfl (lv_room (Nat.le_of_ble_eq_true rfl)) dX6_answer_81 ⟨Nat.zero_le _, Nat.zero_le _⟩) hS (fun _ _ h => h) (fun _ h => h) (fun r u t H locs ht hvm hw hB _ _ hS => ?_)
            rw [hw.1]; have hB : zt_B G u t := hB; rw [hw.2] at hB; have hP := zt_B.P hB ht
            exact B84 rc10 hrc10 σ v12 u3 u5 u6 u7 v5 _ _ _ hf hP hS (lv_sub hl [1, 2, 3, 4, 5, 6, 7, 0] rfl)
          · have hf := (if_pos c7).symm.trans hf
            refine lv_iconst (v := (-1)) hx hb dX6_answer_63 (by decide) ?_
            refine lv_goto (tgt := 84) hx hb dX6_answer_64 (by decide) ?_
            exact B84 rc10 hrc10 σ (-1) u3 u5 u6 u7 v5 _ _ _ hf hP hS (lv_sub hl [1, 2, 3, 4, 5, 6, 7, 0] rfl)
        · have hf := (if_neg c4).symm.trans hf
          refine lv_aload_n hx hb dX6_answer_27 rfl (lv_at hl 1 rfl) ?_
          refine lv_iload hx hb dX6_answer_28 (lv_at hl 4 rfl) ?_
          refine lv_iload hx hb dX6_answer_30 (lv_at hl 5 rfl) ?_
          refine lv_iload hx hb dX6_answer_32 (lv_at hl 6 rfl) ?_
          refine lv_iconst (v := 1) hx hb dX6_answer_34 (by decide) ?_
          refine lv_icmp_le (tgt := 42) hx hb dX6_answer_35 (by decide) (fun c14 => ?_) (fun c14 => ?_)
          · have hf := (if_pos c14).symm.trans hf
            refine lv_iconst (v := 0) hx hb dX6_answer_42 (by decide) ?_
            exact B43 σ 0 u6 u5 _ _ _ hf hP hS (lv_sub hl [3] rfl)
          · have hf := (if_neg c14).symm.trans hf
            refine lv_iconst (v := 1) hx hb dX6_answer_38 (by decide) ?_
            refine lv_goto (tgt := 43) hx hb dX6_answer_39 (by decide) ?_
            exact B43 σ 1 u6 u5 _ _ _ hf hP hS (lv_sub hl [3] rfl)
  unfold f_X6_answer at hf
  refine lv_iload_n hx hb dX6_answer_0 rfl (lv_at hl 2 rfl) ?_
  refine lv_istore (lv' := [(5, .int x2), (0, .ref (zt_ad G k0)), (1, .ref (zt_ad G k1)), (2, .int x2), (3, .int x3), (4, .ref (zt_ad G k4))]) hx hb dX6_answer_1 hl (by decide) rfl (fun ls hl => ?_)
  refine lv_bipush (v := 50) hx hb dX6_answer_3 (by decide +kernel) ?_
  refine lv_istore (lv' := [(6, .int 50), (5, .int x2), (0, .ref (zt_ad G k0)), (1, .ref (zt_ad G k1)), (2, .int x2), (3, .int x3), (4, .ref (zt_ad G k4))]) hx hb dX6_answer_5 hl (by decide) rfl (fun ls hl => ?_)
  refine lv_iconst (v := 1) hx hb dX6_answer_7 (by decide) ?_
  refine lv_istore (lv' := [(7, .int 1), (6, .int 50), (5, .int x2), (0, .ref (zt_ad G k0)), (1, .ref (zt_ad G k1)), (2, .int x2), (3, .int x3), (4, .ref (zt_ad G k4))]) hx hb dX6_answer_8 hl (by decide) rfl (fun ls hl => ?_)
  exact B10 zt_FU σ x3 x2 50 1 _ _ _ hf hP hS (lv_sub hl [3, 4, 6, 7, 2, 1, 0] rfl)

theorem zh_X6_countOwnNames : yX6_countOwnNames.cls = RX6 ∧ yX6_countOwnNames.cls ≠ "java/lang/invoke/MethodHandle" ∧ yX6_countOwnNames.cls ≠ "java/lang/invoke/VarHandle" ∧ (parseMethodDescriptor yX6_countOwnNames.desc).map (fun d => d.parameters.length) = some 0 := by decide +kernel
set_option maxHeartbeats 4000000 in
set_option maxRecDepth 100000 in
theorem m_X6_countOwnNames (l : Launch) (G : zt_G) {σ : zt_St} {k0 : Nat} (hk0 : zt_kd k0 = 5) {r : Int32} (hf : f_X6_countOwnNames σ k0 = some r) : zt_Mi l G yX6_countOwnNames wsX6_countOwnNames 3 70 [.ref (zt_ad G k0)] σ r σ := by
  refine Met.ofW (cc := cX6_countOwnNames) (maxL := 6) (ret := (some .int)) (by decide) rfl ?_
  intro p e s m args below meth c s₁ B hml hv
  obtain ⟨rfl, hBB⟩ := hv
  have hE := zt_B.env hBB; have hK := hE.2.1; have hP := hBB.2.1
  have hx := B.exec; have hb := B.bytes; have hr := B.returns; have hts := atoms_spec (ws := wsX6_countOwnNames) B.pre
  have hown : s.vm.findClass RX6 = some m.cls := findClass_of_methodNamed B.named
  have hlocks := B.notSynchronized
  have hS : va_S (zt_A G) s.heap s.heap [] := va_S.rf
  have hl := lv_entry ([.ref (zt_ad G k0)]) (n := 6) (Nat.le_of_ble_eq_true rfl)
  rw [lg_entry_eq]
  generalize (lg_sl ([.ref (zt_ad G k0)]) ++ List.replicate (6 - (lg_sl ([.ref (zt_ad G k0)])).length) Slot.unset).toArray = ls at hl ⊢
  have hl : lv_has ls 6 [(0, .ref (zt_ad G k0))] := hl
  show W p l e (zt_R 3 70) s m ([.ref (zt_ad G k0)] : List Value).toArray below meth c s.heap [] 0 0 (MQ below (zt_Ci G r σ) ([.ref (zt_ad G k0)] : List Value).toArray s 0 0 (zt_A G)) (F0 m 0 ls [])
  have fl26 := hts (.fieldLink RX6 26 "ZoneTree$Zone" "records" "LZoneTree$Records;") (List.mem_cons_of_mem _ (List.mem_append_left _ (List.mem_append_left _ (List.mem_append_left _ (List.mem_of_getElem? (i := 0) rfl)))))
  have fl33 := hts (.fieldLink RX6 33 "ZoneTree$Zone" "apex" "I") (List.mem_cons_of_mem _ (List.mem_append_left _ (List.mem_append_left _ (List.mem_append_left _ (List.mem_of_getElem? (i := 1) rfl)))))
  have fl39 := zt_Nw.use (args := ([.ref (zt_ad G k0)] : List Value).toArray) hE.2.2.1 (q := ("ZoneTree$Zone", 39, "ZoneTree$Records", "count", "I", "ZoneTree")) (List.mem_of_getElem? (i := 0) rfl)
  have inX4 : ∀ w ∈ wsX40, w ∈ wsX6_countOwnNames := fun w h => (List.mem_cons_of_mem _ (List.mem_append_right _ h))
  have inX6 : ∀ w ∈ wsX60, w ∈ wsX6_countOwnNames := fun w h => (List.mem_cons_of_mem _ (List.mem_append_left _ (List.mem_append_right _ h)))
  have B77 : ∀ (rc4 : Int32 → Int32 → Option (Int32)) (hrc4 : ∀ (u1 : Int32) (u2 : Int32) (H : Heap) (locs : List Loc) (ls : Array Slot), rc4 u1 u2 = some r → va_P (zt_D G) vwCl (zt_ww G σ) H → va_S (zt_A G) s.heap H locs → lv_has ls 6 [(0, .ref (zt_ad G k0)), (1, .int u1), (2, .int u2)] → W p l e (zt_R 3 70) s m ([.ref (zt_ad G k0)] : List Value).toArray below meth c H locs 0 0 (MQ below (zt_Ci G r σ) ([.ref (zt_ad G k0)] : List Value).toArray s 0 0 (zt_A G)) (F0 m 4 ls [])) (rc44 : Int32 → Int32 → Int32 → Int32 → Int32 → Option (Int32)) (hrc44 : ∀ (u1 : Int32) (u2 : Int32) (u3 : Int32) (u4 : Int32) (u5 : Int32) (H : Heap) (locs : List Loc) (ls : Array Slot), rc44 u1 u2 u3 u4 u5 = some r → va_P (zt_D G) vwCl (zt_ww G σ) H → va_S (zt_A G) s.heap H locs → lv_has ls 6 [(0, .ref (zt_ad G k0)), (1, .int u1), (2, .int u2), (3, .int u3), (4, .int u4), (5, .int u5)] → W p l e (zt_R 3 70) s m ([.ref (zt_ad G k0)] : List Value).toArray below meth c H locs 0 0 (MQ below (zt_Ci G r σ) ([.ref (zt_ad G k0)] : List Value).toArray s 0 0 (zt_A G)) (F0 m 44 ls [])), ∀ (u1 : Int32) (u2 : Int32) (u3 : Int32) (u4 : Int32) (u5 : Int32) (H : Heap) (locs : List Loc) (ls : Array Slot), f_X6_countOwnNames_77 σ k0 rc4 rc44 u1 u2 u3 u4 u5 = some r → va_P (zt_D G) vwCl (zt_ww G σ) H → va_S (zt_A G) s.heap H locs → lv_has ls 6 [(0, .ref (zt_ad G k0)), (1, .int u1), (2, .int u2), (3, .int u3), (4, .int u4), (5, .int u5)] → W p l e (zt_R 3 70) s m ([.ref (zt_ad G k0)] : List Value).toArray below meth c H locs 0 0 (MQ below (zt_Ci G r σ) ([.ref (zt_ad G k0)] : List Value).toArray s 0 0 (zt_A G)) (F0 m 77 ls []) := by
    intro rc4 hrc4 rc44 hrc44 u1 u2 u3 u4 u5 H locs ls hf hP hS hl
    unfold f_X6_countOwnNames_77 at hf
    refine lv_iload_n hx hb dX6_countOwnNames_77 rfl (lv_at hl 3 rfl) ?_
    refine lv_bipush (v := 10) hx hb dX6_countOwnNames_78 (by decide +kernel) ?_
    refine lv_idiv hx hb dX6_countOwnNames_80 (by decide) ?_
    refine lv_istore_n (lv' := [(3, .int (u3 / 10)), (0, .ref (zt_ad G k0)), (1, .int u1), (2, .int u2), (4, .int u4), (5, .int u5)]) hx hb dX6_countOwnNames_81 rfl hl (by decide) rfl (fun ls hl => ?_)
    refine lv_iinc (v := (u5 + 1)) (lv' := [(5, .int (u5 + 1)), (3, .int (u3 / 10)), (0, .ref (zt_ad G k0)), (1, .int u1), (2, .int u2), (4, .int u4)]) hx hb dX6_countOwnNames_82 hl (k := 5) rfl rfl (by decide) rfl (fun ls hl => ?_)
    refine lv_goto (tgt := 44) hx hb dX6_countOwnNames_85 (by decide) ?_
    exact hrc44 u1 u2 (u3 / 10) u4 (u5 + 1) _ _ _ hf hP hS (lv_sub hl [2, 3, 4, 1, 5, 0] rfl)
  have B44 : ∀ (rc4 : Int32 → Int32 → Option (Int32)) (hrc4 : ∀ (u1 : Int32) (u2 : Int32) (H : Heap) (locs : List Loc) (ls : Array Slot), rc4 u1 u2 = some r → va_P (zt_D G) vwCl (zt_ww G σ) H → va_S (zt_A G) s.heap H locs → lv_has ls 6 [(0, .ref (zt_ad G k0)), (1, .int u1), (2, .int u2)] → W p l e (zt_R 3 70) s m ([.ref (zt_ad G k0)] : List Value).toArray below meth c H locs 0 0 (MQ below (zt_Ci G r σ) ([.ref (zt_ad G k0)] : List Value).toArray s 0 0 (zt_A G)) (F0 m 4 ls [])), ∀ (n : Nat), ∀ (u1 : Int32) (u2 : Int32) (u3 : Int32) (u4 : Int32) (u5 : Int32) (H : Heap) (locs : List Loc) (ls : Array Slot), f_X6_countOwnNames_44 σ k0 rc4 n u1 u2 u3 u4 u5 = some r → va_P (zt_D G) vwCl (zt_ww G σ) H → va_S (zt_A G) s.heap H locs → lv_has ls 6 [(0, .ref (zt_ad G k0)), (1, .int u1), (2, .int u2), (3, .int u3), (4, .int u4), (5, .int u5)] → W p l e (zt_R 3 70) s m ([.ref (zt_ad G k0)] : List Value).toArray below meth c H locs 0 0 (MQ below (zt_Ci G r σ) ([.ref (zt_ad G k0)] : List Value).toArray s 0 0 (zt_A G)) (F0 m 44 ls []) := by
    intro rc4 hrc4 n
    induction n with
    | zero => intro u1 u2 u3 u4 u5 H locs ls hf; exact nomatch hf
    | succ n hrc44 =>
      intro u1 u2 u3 u4 u5 H locs ls hf hP hS hl
      generalize hrcg : f_X6_countOwnNames_44 σ k0 rc4 n = rc44 at hrc44
      have hf : f_X6_countOwnNames_44b σ k0 rc4 rc44 u1 u2 u3 u4 u5 = some r := by rw [← hrcg]; exact hf
      unfold f_X6_countOwnNames_44b at hf
      refine lv_iload hx hb dX6_countOwnNames_44 (lv_at hl 5 rfl) ?_
      refine lv_iload hx hb dX6_countOwnNames_46 (lv_at hl 4 rfl) ?_
      refine lv_icmp_gt (tgt := 88) hx hb dX6_countOwnNames_48 (by decide) (fun c10 => ?_) (fun c10 => ?_)
      · have hf := (if_pos c10).symm.trans hf
        refine lv_iinc (v := (u2 + 1)) (lv' := [(2, .int (u2 + 1)), (0, .ref (zt_ad G k0)), (1, .int u1), (3, .int u3), (4, .int u4), (5, .int u5)]) hx hb dX6_countOwnNames_88 hl (k := 2) rfl rfl (by decide) rfl (fun ls hl => ?_)
        refine lv_goto (tgt := 4) hx hb dX6_countOwnNames_91 (by decide) ?_
        exact hrc4 u1 (u2 + 1) _ _ _ hf hP hS (lv_sub hl [1, 2, 0] rfl)
      · have hf := (if_neg c10).symm.trans hf
        refine lv_aload_n hx hb dX6_countOwnNames_51 rfl (lv_at hl 0 rfl) ?_
        refine va_get (D := zt_D G) (ci := 5) (v := .ref (zt_ad G (k0 + 1))) (C := RX6) (T := TX6) (N := 11) hx hb hts inX6 hown hK hP k0 (zt_a5 hk0) rfl 9 (by decide) fl26 (fun _ h9 => h9) rfl dX6_countOwnNames_52 ?_
        refine lv_iload_n hx hb dX6_countOwnNames_55 rfl (lv_at hl 3 rfl) ?_
        obtain ⟨v11, hvv11, hf⟩ := zt_bd_some hf
        refine va_calli (va_runV (As := [.int u3]) (rest := []) ⟨hx, hb, hml, hown, hts⟩ (m_X4_isOwn l G (zt_k5_9 hk0) (σ := σ) hvv11) (cwV 1 hts gX6_countOwnNames_X4_isOwn rfl rfl rfl zh_X4_isOwn ⟨Nat.le_of_ble_eq_true rfl, Nat.le_of_ble_eq_true rfl⟩) ⟨zt_blind, va_recv hK hP (ci := 3) (q0 := (k0 + 1)) rfl (zt_a3 (zt_k5_9 hk0)), fun U hU hW => ⟨rfl, zt_go hE hP hS zt_id hU hW⟩⟩ rfl rfl hl.1 rfl (lv_room (Nat.le_of_ble_eq_true rfl)) dX6_countOwnNames_56 ⟨Nat.zero_le _, Nat.zero_le _⟩) hS (fun _ _ h => h) (fun _ h => h) (fun r u t H locs ht hvm hw hB _ _ hS => ?_)
        rw [hw.1]; have hB : zt_B G u t := hB; rw [hw.2] at hB; have hP := zt_B.P hB ht
        refine lv_if_eq (tgt := 77) hx hb dX6_countOwnNames_59 (by decide) (fun c13 => ?_) (fun c13 => ?_)
        · have hf := (if_pos c13).symm.trans hf
          exact B77 rc4 hrc4 rc44 hrc44 u1 u2 u3 u4 u5 _ _ _ hf hP hS (lv_sub hl [0, 1, 2, 3, 4, 5] rfl)
        · have hf := (if_neg c13).symm.trans hf
          refine lv_aload_n hx hb dX6_countOwnNames_62 rfl (lv_at hl 0 rfl) ?_
          refine va_get (D := zt_D G) (ci := 5) (v := .ref (zt_ad G (k0 + 1))) (C := RX6) (T := TX6) (N := 11) hx hb hts inX6 hown hK hP k0 (zt_a5 hk0) rfl 9 (by decide) fl26 (fun _ h9 => h9) rfl dX6_countOwnNames_63 ?_
          refine lv_iload_n hx hb dX6_countOwnNames_66 rfl (lv_at hl 2 rfl) ?_
          refine lv_iload_n hx hb dX6_countOwnNames_67 rfl (lv_at hl 3 rfl) ?_
          obtain ⟨v14, hvv14, hf⟩ := zt_bd_some hf
          refine va_calli (va_runV (As := [.int u2, .int u3]) (rest := []) ⟨hx, hb, hml, hown, hts⟩ (m_X4_isThereBy l G (zt_k5_9 hk0) (σ := σ) hvv14) (cwV 2 hts gX6_countOwnNames_X4_isThereBy rfl rfl rfl zh_X4_isThereBy ⟨Nat.le_of_ble_eq_true rfl, Nat.le_of_ble_eq_true rfl⟩) ⟨zt_blind, va_recv hK hP (ci := 3) (q0 := (k0 + 1)) rfl (zt_a3 (zt_k5_9 hk0)), fun U hU hW => ⟨rfl, zt_go hE hP hS zt_id hU hW⟩⟩ rfl rfl hl.1 rfl (lv_room (Nat.le_of_ble_eq_true rfl)) dX6_countOwnNames_68 ⟨Nat.zero_le _, Nat.zero_le _⟩) hS (fun _ _ h => h) (fun _ h => h) (fun r u t H locs ht hvm hw hB _ _ hS => ?_)
          rw [hw.1]; have hB : zt_B G u t := hB; rw [hw.2] at hB; have hP := zt_B.P hB ht
          refine lv_if_ne (tgt := 77) hx hb dX6_countOwnNames_71 (by decide) (fun c16 => ?_) (fun c16 => ?_)
          · have hf := (if_neg c16).symm.trans hf
            exact B77 rc4 hrc4 rc44 hrc44 u1 u2 u3 u4 u5 _ _ _ hf hP hS (lv_sub hl [0, 1, 2, 3, 4, 5] rfl)
          · have hf := (if_pos c16).symm.trans hf
            refine lv_iinc (v := (u1 + 1)) (lv' := [(1, .int (u1 + 1)), (0, .ref (zt_ad G k0)), (2, .int u2), (3, .int u3), (4, .int u4), (5, .int u5)]) hx hb dX6_countOwnNames_74 hl (k := 1) rfl rfl (by decide) rfl (fun ls hl => ?_)
            exact B77 rc4 hrc4 rc44 hrc44 (u1 + 1) u2 u3 u4 u5 _ _ _ hf hP hS (lv_sub hl [1, 0, 2, 3, 4, 5] rfl)
  have B4 : ∀ (n : Nat), ∀ (u1 : Int32) (u2 : Int32) (H : Heap) (locs : List Loc) (ls : Array Slot), f_X6_countOwnNames_4 σ k0 n u1 u2 = some r → va_P (zt_D G) vwCl (zt_ww G σ) H → va_S (zt_A G) s.heap H locs → lv_has ls 6 [(0, .ref (zt_ad G k0)), (1, .int u1), (2, .int u2)] → W p l e (zt_R 3 70) s m ([.ref (zt_ad G k0)] : List Value).toArray below meth c H locs 0 0 (MQ below (zt_Ci G r σ) ([.ref (zt_ad G k0)] : List Value).toArray s 0 0 (zt_A G)) (F0 m 4 ls []) := by
    intro n
    induction n with
    | zero => intro u1 u2 H locs ls hf; exact nomatch hf
    | succ n hrc4 =>
      intro u1 u2 H locs ls hf hP hS hl
      generalize hrcg : f_X6_countOwnNames_4 σ k0 n = rc4 at hrc4
      have hf : f_X6_countOwnNames_4b σ k0 rc4 u1 u2 = some r := by rw [← hrcg]; exact hf
      unfold f_X6_countOwnNames_4b at hf
      refine lv_iload_n hx hb dX6_countOwnNames_4 rfl (lv_at hl 2 rfl) ?_
      refine lv_aload_n hx hb dX6_countOwnNames_5 rfl (lv_at hl 0 rfl) ?_
      refine va_get (D := zt_D G) (ci := 5) (v := .ref (zt_ad G (k0 + 1))) (C := RX6) (T := TX6) (N := 11) hx hb hts inX6 hown hK hP k0 (zt_a5 hk0) rfl 9 (by decide) fl26 (fun _ h9 => h9) rfl dX6_countOwnNames_6 ?_
      refine va_getN (D := zt_D G) (ci := 3) (v := .int (σ (k0 + 1) 4)) (C := RX4) (T := TX4) (N := 5) hx hb hts inX4 hown hK hP (k0 + 1) (zt_a3 (zt_k5_9 hk0)) rfl 4 (by decide) fl39 (fun _ h9 => h9) rfl dX6_countOwnNames_9 ?_
      refine lv_icmp_ge (tgt := 94) hx hb dX6_countOwnNames_12 (by decide) (fun c1 => ?_) (fun c1 => ?_)
      · have hf := (if_pos c1).symm.trans hf
        refine lv_iload_n hx hb dX6_countOwnNames_94 rfl (lv_at hl 1 rfl) ?_
        exact W.iret hx hb hr (fun t ht hW => ⟨⟨_, _, rfl, ⟨Option.some.inj hf, rfl⟩, zt_go hE hP hS zt_id ht hW⟩, hS.F ht⟩) hS.2.2 dX6_countOwnNames_95
      · have hf := (if_neg c1).symm.trans hf
        refine lv_aload_n hx hb dX6_countOwnNames_15 rfl (lv_at hl 0 rfl) ?_
        refine va_get (D := zt_D G) (ci := 5) (v := .ref (zt_ad G (k0 + 1))) (C := RX6) (T := TX6) (N := 11) hx hb hts inX6 hown hK hP k0 (zt_a5 hk0) rfl 9 (by decide) fl26 (fun _ h9 => h9) rfl dX6_countOwnNames_16 ?_
        refine lv_iload_n hx hb dX6_countOwnNames_19 rfl (lv_at hl 2 rfl) ?_
        obtain ⟨v2, hvv2, hf⟩ := zt_bd_some hf
        refine va_calli (va_runV (As := [.int u2]) (rest := []) ⟨hx, hb, hml, hown, hts⟩ (m_X4_placeAt l G (zt_k5_9 hk0) (σ := σ) hvv2) (cwV 1 hts gX6_countOwnNames_X4_placeAt rfl rfl rfl zh_X4_placeAt ⟨Nat.le_of_ble_eq_true rfl, Nat.le_of_ble_eq_true rfl⟩) ⟨zt_blind, va_recv hK hP (ci := 3) (q0 := (k0 + 1)) rfl (zt_a3 (zt_k5_9 hk0)), fun U hU hW => ⟨rfl, zt_go hE hP hS zt_id hU hW⟩⟩ rfl rfl hl.1 rfl (lv_room (Nat.le_of_ble_eq_true rfl)) dX6_countOwnNames_20 ⟨Nat.zero_le _, Nat.zero_le _⟩) hS (fun _ _ h => h) (fun _ h => h) (fun r u t H locs ht hvm hw hB _ _ hS => ?_)
        rw [hw.1]; have hB : zt_B G u t := hB; rw [hw.2] at hB; have hP := zt_B.P hB ht
        obtain ⟨v4, hvv4, hf⟩ := zt_bd_some hf
        refine va_calli (va_runS (As := [.int v2]) (rest := []) ⟨hx, hb, hml, hown, hts⟩ (m_X3_nameOf l G (σ := σ) hvv4) (va_cwS 1 hts gX6_countOwnNames_X3_nameOf rfl rfl rfl zh_X3_nameOf ⟨Nat.le_of_ble_eq_true rfl, Nat.le_of_ble_eq_true rfl⟩) ⟨zt_blind, fun U hU hW => ⟨rfl, zt_go hE hP hS zt_id hU hW⟩⟩ rfl rfl hl.1 rfl (lv_room (Nat.le_of_ble_eq_true rfl)) dX6_countOwnNames_23 ⟨Nat.zero_le _, Nat.zero_le _⟩) hS (fun _ _ h => h) (fun _ h => h) (fun r u t H locs ht hvm hw hB _ _ hS => ?_)
        rw [hw.1]; have hB : zt_B G u t := hB; rw [hw.2] at hB; have hP := zt_B.P hB ht
        refine lv_istore_n (lv' := [(3, .int v4), (0, .ref (zt_ad G k0)), (1, .int u1), (2, .int u2)]) hx hb dX6_countOwnNames_26 rfl hl (by decide) rfl (fun ls hl => ?_)
        refine lv_iload_n hx hb dX6_countOwnNames_27 rfl (lv_at hl 0 rfl) ?_
        obtain ⟨v6, hvv6, hf⟩ := zt_bd_some hf
        refine va_calli (va_runS (As := [.int v4]) (rest := []) ⟨hx, hb, hml, hown, hts⟩ (m_X3_figures l G (σ := σ) hvv6) (va_cwS 1 hts gX6_countOwnNames_X3_figures rfl rfl rfl zh_X3_figures ⟨Nat.le_of_ble_eq_true rfl, Nat.le_of_ble_eq_true rfl⟩) ⟨zt_blind, fun U hU hW => ⟨rfl, zt_go hE hP hS zt_id hU hW⟩⟩ rfl rfl hl.1 rfl (lv_room (Nat.le_of_ble_eq_true rfl)) dX6_countOwnNames_28 ⟨Nat.zero_le _, Nat.zero_le _⟩) hS (fun _ _ h => h) (fun _ h => h) (fun r u t H locs ht hvm hw hB _ _ hS => ?_)
        rw [hw.1]; have hB : zt_B G u t := hB; rw [hw.2] at hB; have hP := zt_B.P hB ht
        refine lv_aload_n hx hb dX6_countOwnNames_31 rfl (lv_at hl 1 rfl) ?_
        refine va_get (D := zt_D G) (ci := 5) (v := .int (σ k0 0)) (C := RX6) (T := TX6) (N := 11) hx hb hts inX6 hown hK hP k0 (zt_a5 hk0) rfl 0 (by decide) fl33 (fun _ h9 => h9) rfl dX6_countOwnNames_32 ?_
        obtain ⟨v8, hvv8, hf⟩ := zt_bd_some hf
        refine va_calli (va_runS (As := [.int (σ k0 0)]) (rest := [.int v6]) ⟨hx, hb, hml, hown, hts⟩ (m_X3_figures l G (σ := σ) hvv8) (va_cwS 1 hts gX6_countOwnNames_X3_figures rfl rfl rfl zh_X3_figures ⟨Nat.le_of_ble_eq_true rfl, Nat.le_of_ble_eq_true rfl⟩) ⟨zt_blind, fun U hU hW => ⟨rfl, zt_go hE hP hS zt_id hU hW⟩⟩ rfl rfl hl.1 rfl (lv_room (Nat.le_of_ble_eq_true rfl)) dX6_countOwnNames_35 ⟨Nat.zero_le _, Nat.zero_le _⟩) hS (fun _ _ h => h) (fun _ h => h) (fun r u t H locs ht hvm hw hB _ _ hS => ?_)
        rw [hw.1]; have hB : zt_B G u t := hB; rw [hw.2] at hB; have hP := zt_B.P hB ht
        refine lv_isub hx hb dX6_countOwnNames_38 ?_
        refine lv_istore (lv' := [(4, .int (v6 - v8)), (3, .int v4), (0, .ref (zt_ad G k0)), (1, .int u1), (2, .int u2)]) hx hb dX6_countOwnNames_39 hl (by decide) rfl (fun ls hl => ?_)
        refine lv_iconst (v := 0) hx hb dX6_countOwnNames_41 (by decide) ?_
        refine lv_istore (lv' := [(5, .int 0), (4, .int (v6 - v8)), (3, .int v4), (0, .ref (zt_ad G k0)), (1, .int u1), (2, .int u2)]) hx hb dX6_countOwnNames_42 hl (by decide) rfl (fun ls hl => ?_)
        exact B44 rc4 hrc4 zt_FU u1 u2 v4 (v6 - v8) 0 _ _ _ hf hP hS (lv_sub hl [3, 4, 5, 2, 1, 0] rfl)
  unfold f_X6_countOwnNames at hf
  refine lv_iconst (v := 0) hx hb dX6_countOwnNames_0 (by decide) ?_
  refine lv_istore_n (lv' := [(1, .int 0), (0, .ref (zt_ad G k0))]) hx hb dX6_countOwnNames_1 rfl hl (by decide) rfl (fun ls hl => ?_)
  refine lv_iconst (v := 0) hx hb dX6_countOwnNames_2 (by decide) ?_
  refine lv_istore_n (lv' := [(2, .int 0), (1, .int 0), (0, .ref (zt_ad G k0))]) hx hb dX6_countOwnNames_3 rfl hl (by decide) rfl (fun ls hl => ?_)
  exact B4 zt_FU 0 0 _ _ _ hf hP hS (lv_sub hl [2, 1, 0] rfl)

theorem zh_X6_detail : yX6_detail.cls = RX6 ∧ yX6_detail.cls ≠ "java/lang/invoke/MethodHandle" ∧ yX6_detail.cls ≠ "java/lang/invoke/VarHandle" ∧ (parseMethodDescriptor yX6_detail.desc).map (fun d => d.parameters.length) = some 1 := by decide +kernel
set_option maxHeartbeats 4000000 in
set_option maxRecDepth 100000 in
theorem m_X6_detail (l : Launch) (G : zt_G) {σ : zt_St} {k0 : Nat} (hk0 : zt_kd k0 = 5) {x1 : Int32} {r : Int32} (hf : f_X6_detail σ k0 x1 = some r) : zt_Mi l G yX6_detail wsX6_detail 4 95 [.ref (zt_ad G k0), .int x1] σ r σ := by
  refine Met.ofW (cc := cX6_detail) (maxL := 2) (ret := (some .int)) (by decide) rfl ?_
  intro p e s m args below meth c s₁ B hml hv
  obtain ⟨rfl, hBB⟩ := hv
  have hE := zt_B.env hBB; have hK := hE.2.1; have hP := hBB.2.1
  have hx := B.exec; have hb := B.bytes; have hr := B.returns; have hts := atoms_spec (ws := wsX6_detail) B.pre
  have hown : s.vm.findClass RX6 = some m.cls := findClass_of_methodNamed B.named
  have hlocks := B.notSynchronized
  have hS : va_S (zt_A G) s.heap s.heap [] := va_S.rf
  have hl := lv_entry ([.ref (zt_ad G k0), .int x1]) (n := 2) (Nat.le_of_ble_eq_true rfl)
  rw [lg_entry_eq]
  generalize (lg_sl ([.ref (zt_ad G k0), .int x1]) ++ List.replicate (2 - (lg_sl ([.ref (zt_ad G k0), .int x1])).length) Slot.unset).toArray = ls at hl ⊢
  have hl : lv_has ls 2 [(0, .ref (zt_ad G k0)), (1, .int x1)] := hl
  show W p l e (zt_R 4 95) s m ([.ref (zt_ad G k0), .int x1] : List Value).toArray below meth c s.heap [] 0 0 (MQ below (zt_Ci G r σ) ([.ref (zt_ad G k0), .int x1] : List Value).toArray s 0 0 (zt_A G)) (F0 m 0 ls [])
  have fl9 := hts (.fieldLink RX6 9 "ZoneTree$Zone" "copySerial" "I") (List.mem_cons_of_mem _ (List.mem_append_left _ (List.mem_append_left _ (List.mem_append_left _ (List.mem_of_getElem? (i := 3) rfl)))))
  have fl26 := hts (.fieldLink RX6 26 "ZoneTree$Zone" "records" "LZoneTree$Records;") (List.mem_cons_of_mem _ (List.mem_append_left _ (List.mem_append_left _ (List.mem_append_left _ (List.mem_of_getElem? (i := 2) rfl)))))
  have fl33 := hts (.fieldLink RX6 33 "ZoneTree$Zone" "apex" "I") (List.mem_cons_of_mem _ (List.mem_append_left _ (List.mem_append_left _ (List.mem_append_left _ (List.mem_of_getElem? (i := 0) rfl)))))
  have fl36 := hts (.fieldLink RX6 36 "ZoneTree$Zone" "serial" "I") (List.mem_cons_of_mem _ (List.mem_append_left _ (List.mem_append_left _ (List.mem_append_left _ (List.mem_of_getElem? (i := 1) rfl)))))
  have fl39 := zt_Nw.use (args := ([.ref (zt_ad G k0), .int x1] : List Value).toArray) hE.2.2.1 (q := ("ZoneTree$Zone", 39, "ZoneTree$Records", "count", "I", "ZoneTree")) (List.mem_of_getElem? (i := 0) rfl)
  have inX4 : ∀ w ∈ wsX40, w ∈ wsX6_detail := fun w h => (List.mem_cons_of_mem _ (List.mem_append_right _ h))
  have inX6 : ∀ w ∈ wsX60, w ∈ wsX6_detail := fun w h => (List.mem_cons_of_mem _ (List.mem_append_left _ (List.mem_append_right _ h)))
  unfold f_X6_detail at hf
  refine lv_iload_n hx hb dX6_detail_0 rfl (lv_at hl 1 rfl) ?_
  by_cases c1 : x1 = 0
  · have hf := (if_pos c1).symm.trans hf
    refine lv_tableIn (off := 31) (tgt := 32) hx hb dX6_detail_1 (by rw [c1]; decide) (by rw [c1]; decide) (by rw [c1]; rfl) (by decide) ?_
    refine lv_aload_n hx hb dX6_detail_32 rfl (lv_at hl 0 rfl) ?_
    refine va_get (D := zt_D G) (ci := 5) (v := .int (σ k0 0)) (C := RX6) (T := TX6) (N := 11) hx hb hts inX6 hown hK hP k0 (zt_a5 hk0) rfl 0 (by decide) fl33 (fun _ h9 => h9) rfl dX6_detail_33 ?_
    exact W.iret hx hb hr (fun t ht hW => ⟨⟨_, _, rfl, ⟨Option.some.inj hf, rfl⟩, zt_go hE hP hS zt_id ht hW⟩, hS.F ht⟩) hS.2.2 dX6_detail_36
  · have hf := (if_neg c1).symm.trans hf
    by_cases c2 : x1 = 1
    · have hf := (if_pos c2).symm.trans hf
      refine lv_tableIn (off := 36) (tgt := 37) hx hb dX6_detail_1 (by rw [c2]; decide) (by rw [c2]; decide) (by rw [c2]; rfl) (by decide) ?_
      refine lv_aload_n hx hb dX6_detail_37 rfl (lv_at hl 0 rfl) ?_
      refine va_get (D := zt_D G) (ci := 5) (v := .int (σ k0 2)) (C := RX6) (T := TX6) (N := 11) hx hb hts inX6 hown hK hP k0 (zt_a5 hk0) rfl 2 (by decide) fl36 (fun _ h9 => h9) rfl dX6_detail_38 ?_
      exact W.iret hx hb hr (fun t ht hW => ⟨⟨_, _, rfl, ⟨Option.some.inj hf, rfl⟩, zt_go hE hP hS zt_id ht hW⟩, hS.F ht⟩) hS.2.2 dX6_detail_41
    · have hf := (if_neg c2).symm.trans hf
      by_cases c3 : x1 = 2
      · have hf := (if_pos c3).symm.trans hf
        refine lv_tableIn (off := 41) (tgt := 42) hx hb dX6_detail_1 (by rw [c3]; decide) (by rw [c3]; decide) (by rw [c3]; rfl) (by decide) ?_
        refine lv_aload_n hx hb dX6_detail_42 rfl (lv_at hl 0 rfl) ?_
        refine va_get (D := zt_D G) (ci := 5) (v := .ref (zt_ad G (k0 + 1))) (C := RX6) (T := TX6) (N := 11) hx hb hts inX6 hown hK hP k0 (zt_a5 hk0) rfl 9 (by decide) fl26 (fun _ h9 => h9) rfl dX6_detail_43 ?_
        refine va_getN (D := zt_D G) (ci := 3) (v := .int (σ (k0 + 1) 4)) (C := RX4) (T := TX4) (N := 5) hx hb hts inX4 hown hK hP (k0 + 1) (zt_a3 (zt_k5_9 hk0)) rfl 4 (by decide) fl39 (fun _ h9 => h9) rfl dX6_detail_46 ?_
        exact W.iret hx hb hr (fun t ht hW => ⟨⟨_, _, rfl, ⟨Option.some.inj hf, rfl⟩, zt_go hE hP hS zt_id ht hW⟩, hS.F ht⟩) hS.2.2 dX6_detail_49
      · have hf := (if_neg c3).symm.trans hf
        by_cases c4 : x1 = 3
        · have hf := (if_pos c4).symm.trans hf
          refine lv_tableIn (off := 49) (tgt := 50) hx hb dX6_detail_1 (by rw [c4]; decide) (by rw [c4]; decide) (by rw [c4]; rfl) (by decide) ?_
          refine lv_aload_n hx hb dX6_detail_50 rfl (lv_at hl 0 rfl) ?_
          refine va_get (D := zt_D G) (ci := 5) (v := .int (σ k0 3)) (C := RX6) (T := TX6) (N := 11) hx hb hts inX6 hown hK hP k0 (zt_a5 hk0) rfl 3 (by decide) fl9 (fun _ h9 => h9) rfl dX6_detail_51 ?_
          exact W.iret hx hb hr (fun t ht hW => ⟨⟨_, _, rfl, ⟨Option.some.inj hf, rfl⟩, zt_go hE hP hS zt_id ht hW⟩, hS.F ht⟩) hS.2.2 dX6_detail_54
        · have hf := (if_neg c4).symm.trans hf
          have hc1 := zt_nz (0) (by decide) c1
          have hc2 := zt_nz (1) (by decide) c2
          have hc3 := zt_nz (2) (by decide) c3
          have hc4 := zt_nz (3) (by decide) c4
          refine lv_tableOut (tgt := 55) hx hb dX6_detail_1 (by omega) (by decide) ?_
          refine lv_aload_n hx hb dX6_detail_55 rfl (lv_at hl 0 rfl) ?_
          obtain ⟨v5, hvv5, hf⟩ := zt_bd_some hf
          refine va_calli (va_runV (As := []) (rest := []) ⟨hx, hb, hml, hown, hts⟩ (m_X6_countOwnNames l G hk0 (σ := σ) hvv5) (cwV 0 hts gX6_detail_X6_countOwnNames rfl rfl rfl zh_X6_countOwnNames ⟨Nat.le_of_ble_eq_true rfl, Nat.le_of_ble_eq_true rfl⟩) ⟨zt_blind, va_recv hK hP (ci := 5) (q0 := k0) rfl (zt_a5 hk0), fun U hU hW => ⟨rfl, zt_go hE hP hS zt_id hU hW⟩⟩ rfl rfl hl.1 rfl (lv_room (Nat.le_of_ble_eq_true rfl)) dX6_detail_56 ⟨Nat.zero_le _, Nat.zero_le _⟩) hS (fun _ _ h => h) (fun _ h => h) (fun r u t H locs ht hvm hw hB _ _ hS => ?_)
          rw [hw.1]; have hB : zt_B G u t := hB; rw [hw.2] at hB; have hP := zt_B.P hB ht
          exact W.iret hx hb hr (fun t ht hW => ⟨⟨_, _, rfl, ⟨Option.some.inj hf, rfl⟩, zt_go hE hP hS zt_id ht hW⟩, hS.F ht⟩) hS.2.2 dX6_detail_59

theorem zh_X6_nearer : yX6_nearer.cls = RX6 ∧ yX6_nearer.cls ≠ "java/lang/invoke/MethodHandle" ∧ yX6_nearer.cls ≠ "java/lang/invoke/VarHandle" ∧ (parseMethodDescriptor yX6_nearer.desc).map (fun d => d.parameters.length) = some 4 := by decide +kernel
set_option maxHeartbeats 4000000 in
set_option maxRecDepth 100000 in
theorem m_X6_nearer (l : Launch) (G : zt_G) {σ : zt_St} {k0 : Nat} (hk0 : zt_kd k0 = 5) {x1 : Int32} {x2 : Int32} {x3 : Int32} {x4 : Int32} {r : Int32} (hf : f_X6_nearer σ k0 x1 x2 x3 x4 = some r) : zt_Mi l G yX6_nearer wsX6_nearer 3 70 [.ref (zt_ad G k0), .int x1, .int x2, .int x3, .int x4] σ r σ := by
  refine Met.ofW (cc := cX6_nearer) (maxL := 6) (ret := (some .int)) (by decide) rfl ?_
  intro p e s m args below meth c s₁ B hml hv
  obtain ⟨rfl, hBB⟩ := hv
  have hE := zt_B.env hBB; have hK := hE.2.1; have hP := hBB.2.1
  have hx := B.exec; have hb := B.bytes; have hr := B.returns; have hts := atoms_spec (ws := wsX6_nearer) B.pre
  have hown : s.vm.findClass RX6 = some m.cls := findClass_of_methodNamed B.named
  have hlocks := B.notSynchronized
  have hS : va_S (zt_A G) s.heap s.heap [] := va_S.rf
  have hl := lv_entry ([.ref (zt_ad G k0), .int x1, .int x2, .int x3, .int x4]) (n := 6) (Nat.le_of_ble_eq_true rfl)
  rw [lg_entry_eq]
  generalize (lg_sl ([.ref (zt_ad G k0), .int x1, .int x2, .int x3, .int x4]) ++ List.replicate (6 - (lg_sl ([.ref (zt_ad G k0), .int x1, .int x2, .int x3, .int x4])).length) Slot.unset).toArray = ls at hl ⊢
  have hl : lv_has ls 6 [(0, .ref (zt_ad G k0)), (1, .int x1), (2, .int x2), (3, .int x3), (4, .int x4)] := hl
  show W p l e (zt_R 3 70) s m ([.ref (zt_ad G k0), .int x1, .int x2, .int x3, .int x4] : List Value).toArray below meth c s.heap [] 0 0 (MQ below (zt_Ci G r σ) ([.ref (zt_ad G k0), .int x1, .int x2, .int x3, .int x4] : List Value).toArray s 0 0 (zt_A G)) (F0 m 0 ls [])
  have fl26 := hts (.fieldLink RX6 26 "ZoneTree$Zone" "records" "LZoneTree$Records;") (List.mem_cons_of_mem _ (List.mem_append_left _ (List.mem_append_left _ (List.mem_append_left _ (List.mem_of_getElem? (i := 0) rfl)))))
  have inX6 : ∀ w ∈ wsX60, w ∈ wsX6_nearer := fun w h => (List.mem_cons_of_mem _ (List.mem_append_left _ (List.mem_append_right _ h)))
  have B61 : ∀ (y0 : Int32) (y1 : Int32) (u1 : Int32) (u2 : Int32) (H : Heap) (locs : List Loc) (ls : Array Slot), f_X6_nearer_61 σ k0 y0 y1 u1 u2 = some r → va_P (zt_D G) vwCl (zt_ww G σ) H → va_S (zt_A G) s.heap H locs → lv_has ls 6 [(1, .int u1), (2, .int u2)] → W p l e (zt_R 3 70) s m ([.ref (zt_ad G k0), .int x1, .int x2, .int x3, .int x4] : List Value).toArray below meth c H locs 0 0 (MQ below (zt_Ci G r σ) ([.ref (zt_ad G k0), .int x1, .int x2, .int x3, .int x4] : List Value).toArray s 0 0 (zt_A G)) (F0 m 61 ls [.int y0, .int y1]) := by
    intro y0 y1 u1 u2 H locs ls hf hP hS hl
    unfold f_X6_nearer_61 at hf
    refine lv_icmp_ne (tgt := 68) hx hb dX6_nearer_61 (by decide) (fun c14 => ?_) (fun c14 => ?_)
    · have hf := (if_neg c14).symm.trans hf
      refine lv_iload_n hx hb dX6_nearer_68 rfl (lv_at hl 0 rfl) ?_
      exact W.iret hx hb hr (fun t ht hW => ⟨⟨_, _, rfl, ⟨Option.some.inj hf, rfl⟩, zt_go hE hP hS zt_id ht hW⟩, hS.F ht⟩) hS.2.2 dX6_nearer_69
    · have hf := (if_pos c14).symm.trans hf
      refine lv_iload_n hx hb dX6_nearer_64 rfl (lv_at hl 1 rfl) ?_
      refine lv_goto (tgt := 69) hx hb dX6_nearer_65 (by decide) ?_
      exact W.iret hx hb hr (fun t ht hW => ⟨⟨_, _, rfl, ⟨Option.some.inj hf, rfl⟩, zt_go hE hP hS zt_id ht hW⟩, hS.F ht⟩) hS.2.2 dX6_nearer_69
  have B22 : ∀ (y0 : Int32) (y1 : Int32) (u1 : Int32) (u2 : Int32) (u4 : Int32) (u5 : Int32) (H : Heap) (locs : List Loc) (ls : Array Slot), f_X6_nearer_22 σ k0 y0 y1 u1 u2 u4 u5 = some r → va_P (zt_D G) vwCl (zt_ww G σ) H → va_S (zt_A G) s.heap H locs → lv_has ls 6 [(0, .ref (zt_ad G k0)), (1, .int u1), (2, .int u2), (4, .int u4), (5, .int u5)] → W p l e (zt_R 3 70) s m ([.ref (zt_ad G k0), .int x1, .int x2, .int x3, .int x4] : List Value).toArray below meth c H locs 0 0 (MQ below (zt_Ci G r σ) ([.ref (zt_ad G k0), .int x1, .int x2, .int x3, .int x4] : List Value).toArray s 0 0 (zt_A G)) (F0 m 22 ls [.int y0, .int y1]) := by
    intro y0 y1 u1 u2 u4 u5 H locs ls hf hP hS hl
    unfold f_X6_nearer_22 at hf
    refine lv_icmp_ne (tgt := 36) hx hb dX6_nearer_22 (by decide) (fun c6 => ?_) (fun c6 => ?_)
    · have hf := (if_neg c6).symm.trans hf
      refine lv_iload_n hx hb dX6_nearer_36 rfl (lv_at hl 1 rfl) ?_
      exact W.iret hx hb hr (fun t ht hW => ⟨⟨_, _, rfl, ⟨Option.some.inj hf, rfl⟩, zt_go hE hP hS zt_id ht hW⟩, hS.F ht⟩) hS.2.2 dX6_nearer_37
    · have hf := (if_pos c6).symm.trans hf
      refine lv_aload_n hx hb dX6_nearer_25 rfl (lv_at hl 0 rfl) ?_
      refine va_get (D := zt_D G) (ci := 5) (v := .ref (zt_ad G (k0 + 1))) (C := RX6) (T := TX6) (N := 11) hx hb hts inX6 hown hK hP k0 (zt_a5 hk0) rfl 9 (by decide) fl26 (fun _ h9 => h9) rfl dX6_nearer_26 ?_
      refine lv_iload_n hx hb dX6_nearer_29 rfl (lv_at hl 2 rfl) ?_
      obtain ⟨v7, hvv7, hf⟩ := zt_bd_some hf
      refine va_calli (va_runV (As := [.int u2]) (rest := []) ⟨hx, hb, hml, hown, hts⟩ (m_X4_isOwn l G (zt_k5_9 hk0) (σ := σ) hvv7) (cwV 1 hts gX6_nearer_X4_isOwn rfl rfl rfl zh_X4_isOwn ⟨Nat.le_of_ble_eq_true rfl, Nat.le_of_ble_eq_true rfl⟩) ⟨zt_blind, va_recv hK hP (ci := 3) (q0 := (k0 + 1)) rfl (zt_a3 (zt_k5_9 hk0)), fun U hU hW => ⟨rfl, zt_go hE hP hS zt_id hU hW⟩⟩ rfl rfl hl.1 rfl (lv_room (Nat.le_of_ble_eq_true rfl)) dX6_nearer_30 ⟨Nat.zero_le _, Nat.zero_le _⟩) hS (fun _ _ h => h) (fun _ h => h) (fun r u t H locs ht hvm hw hB _ _ hS => ?_)
      rw [hw.1]; have hB : zt_B G u t := hB; rw [hw.2] at hB; have hP := zt_B.P hB ht
      refine lv_if_ne (tgt := 38) hx hb dX6_nearer_33 (by decide) (fun c9 => ?_) (fun c9 => ?_)
      · have hf := (if_neg c9).symm.trans hf
        refine lv_iload_n hx hb dX6_nearer_38 rfl (lv_at hl 1 rfl) ?_
        refine lv_iconst (v := (-1)) hx hb dX6_nearer_39 (by decide) ?_
        refine lv_icmp_ne (tgt := 45) hx hb dX6_nearer_40 (by decide) (fun c10 => ?_) (fun c10 => ?_)
        · have hf := (if_neg c10).symm.trans hf
          refine lv_iload hx hb dX6_nearer_45 (lv_at hl 3 rfl) ?_
          refine lv_iload hx hb dX6_nearer_47 (lv_at hl 4 rfl) ?_
          refine lv_iload_n hx hb dX6_nearer_49 rfl (lv_at hl 1 rfl) ?_
          obtain ⟨v11, hvv11, hf⟩ := zt_bd_some hf
          refine va_calli (va_runS (As := [.int u1]) (rest := [.int u5, .int u4]) ⟨hx, hb, hml, hown, hts⟩ (m_X3_order l G (σ := σ) hvv11) (va_cwS 1 hts gX6_nearer_X3_order rfl rfl rfl zh_X3_order ⟨Nat.le_of_ble_eq_true rfl, Nat.le_of_ble_eq_true rfl⟩) ⟨zt_blind, fun U hU hW => ⟨rfl, zt_go hE hP hS zt_id hU hW⟩⟩ rfl rfl hl.1 rfl (lv_room (Nat.le_of_ble_eq_true rfl)) dX6_nearer_50 ⟨Nat.zero_le _, Nat.zero_le _⟩) hS (fun _ _ h => h) (fun _ h => h) (fun r u t H locs ht hvm hw hB _ _ hS => ?_)
          rw [hw.1]; have hB : zt_B G u t := hB; rw [hw.2] at hB; have hP := zt_B.P hB ht
          refine lv_icmp_ge (tgt := 60) hx hb dX6_nearer_53 (by decide) (fun c13 => ?_) (fun c13 => ?_)
          · have hf := (if_pos c13).symm.trans hf
            refine lv_iconst (v := 0) hx hb dX6_nearer_60 (by decide) ?_
            exact B61 0 u4 u1 u2 _ _ _ hf hP hS (lv_sub hl [1, 2] rfl)
          · have hf := (if_neg c13).symm.trans hf
            refine lv_iconst (v := 1) hx hb dX6_nearer_56 (by decide) ?_
            refine lv_goto (tgt := 61) hx hb dX6_nearer_57 (by decide) ?_
            exact B61 1 u4 u1 u2 _ _ _ hf hP hS (lv_sub hl [1, 2] rfl)
        · have hf := (if_pos c10).symm.trans hf
          refine lv_iload_n hx hb dX6_nearer_43 rfl (lv_at hl 2 rfl) ?_
          exact W.iret hx hb hr (fun t ht hW => ⟨⟨_, _, rfl, ⟨Option.some.inj hf, rfl⟩, zt_go hE hP hS zt_id ht hW⟩, hS.F ht⟩) hS.2.2 dX6_nearer_44
      · have hf := (if_pos c9).symm.trans hf
        refine lv_iload_n hx hb dX6_nearer_36 rfl (lv_at hl 1 rfl) ?_
        exact W.iret hx hb hr (fun t ht hW => ⟨⟨_, _, rfl, ⟨Option.some.inj hf, rfl⟩, zt_go hE hP hS zt_id ht hW⟩, hS.F ht⟩) hS.2.2 dX6_nearer_37
  unfold f_X6_nearer at hf
  refine lv_iload_n hx hb dX6_nearer_0 rfl (lv_at hl 2 rfl) ?_
  obtain ⟨v1, hvv1, hf⟩ := zt_bd_some hf
  refine va_calli (va_runS (As := [.int x2]) (rest := []) ⟨hx, hb, hml, hown, hts⟩ (m_X3_order l G (σ := σ) hvv1) (va_cwS 1 hts gX6_nearer_X3_order rfl rfl rfl zh_X3_order ⟨Nat.le_of_ble_eq_true rfl, Nat.le_of_ble_eq_true rfl⟩) ⟨zt_blind, fun U hU hW => ⟨rfl, zt_go hE hP hS zt_id hU hW⟩⟩ rfl rfl hl.1 rfl (lv_room (Nat.le_of_ble_eq_true rfl)) dX6_nearer_1 ⟨Nat.zero_le _, Nat.zero_le _⟩) hS (fun _ _ h => h) (fun _ h => h) (fun r u t H locs ht hvm hw hB _ _ hS => ?_)
  rw [hw.1]; have hB : zt_B G u t := hB; rw [hw.2] at hB; have hP := zt_B.P hB ht
  refine lv_istore (lv' := [(5, .int v1), (0, .ref (zt_ad G k0)), (1, .int x1), (2, .int x2), (3, .int x3), (4, .int x4)]) hx hb dX6_nearer_4 hl (by decide) rfl (fun ls hl => ?_)
  refine lv_iload hx hb dX6_nearer_6 (lv_at hl 5 rfl) ?_
  refine lv_iload hx hb dX6_nearer_8 (lv_at hl 0 rfl) ?_
  refine lv_iload_n hx hb dX6_nearer_10 rfl (lv_at hl 4 rfl) ?_
  obtain ⟨v3, hvv3, hf⟩ := zt_bd_some hf
  refine va_calli (va_runS (As := [.int x3]) (rest := [.int v1, .int x4]) ⟨hx, hb, hml, hown, hts⟩ (m_X3_order l G (σ := σ) hvv3) (va_cwS 1 hts gX6_nearer_X3_order rfl rfl rfl zh_X3_order ⟨Nat.le_of_ble_eq_true rfl, Nat.le_of_ble_eq_true rfl⟩) ⟨zt_blind, fun U hU hW => ⟨rfl, zt_go hE hP hS zt_id hU hW⟩⟩ rfl rfl hl.1 rfl (lv_room (Nat.le_of_ble_eq_true rfl)) dX6_nearer_11 ⟨Nat.zero_le _, Nat.zero_le _⟩) hS (fun _ _ h => h) (fun _ h => h) (fun r u t H locs ht hvm hw hB _ _ hS => ?_)
  rw [hw.1]; have hB : zt_B G u t := hB; rw [hw.2] at hB; have hP := zt_B.P hB ht
  refine lv_icmp_le (tgt := 21) hx hb dX6_nearer_14 (by decide) (fun c5 => ?_) (fun c5 => ?_)
  · have hf := (if_pos c5).symm.trans hf
    refine lv_iconst (v := 0) hx hb dX6_nearer_21 (by decide) ?_
    exact B22 0 x4 x1 x2 x4 v1 _ _ _ hf hP hS (lv_sub hl [1, 2, 3, 5, 0] rfl)
  · have hf := (if_neg c5).symm.trans hf
    refine lv_iconst (v := 1) hx hb dX6_nearer_17 (by decide) ?_
    refine lv_goto (tgt := 22) hx hb dX6_nearer_18 (by decide) ?_
    exact B22 1 x4 x1 x2 x4 v1 _ _ _ hf hP hS (lv_sub hl [1, 2, 3, 5, 0] rfl)

theorem zh_X6_nearest : yX6_nearest.cls = RX6 ∧ yX6_nearest.cls ≠ "java/lang/invoke/MethodHandle" ∧ yX6_nearest.cls ≠ "java/lang/invoke/VarHandle" ∧ (parseMethodDescriptor yX6_nearest.desc).map (fun d => d.parameters.length) = some 2 := by decide +kernel
set_option maxHeartbeats 4000000 in
set_option maxRecDepth 100000 in
theorem m_X6_nearest (l : Launch) (G : zt_G) {σ : zt_St} {k0 : Nat} (hk0 : zt_kd k0 = 5) {x1 : Int32} {x2 : Int32} {r : Int32} (hf : f_X6_nearest σ k0 x1 x2 = some r) : zt_Mi l G yX6_nearest wsX6_nearest 4 95 [.ref (zt_ad G k0), .int x1, .int x2] σ r σ := by
  refine Met.ofW (cc := cX6_nearest) (maxL := 9) (ret := (some .int)) (by decide) rfl ?_
  intro p e s m args below meth c s₁ B hml hv
  obtain ⟨rfl, hBB⟩ := hv
  have hE := zt_B.env hBB; have hK := hE.2.1; have hP := hBB.2.1
  have hx := B.exec; have hb := B.bytes; have hr := B.returns; have hts := atoms_spec (ws := wsX6_nearest) B.pre
  have hown : s.vm.findClass RX6 = some m.cls := findClass_of_methodNamed B.named
  have hlocks := B.notSynchronized
  have hS : va_S (zt_A G) s.heap s.heap [] := va_S.rf
  have hl := lv_entry ([.ref (zt_ad G k0), .int x1, .int x2]) (n := 9) (Nat.le_of_ble_eq_true rfl)
  rw [lg_entry_eq]
  generalize (lg_sl ([.ref (zt_ad G k0), .int x1, .int x2]) ++ List.replicate (9 - (lg_sl ([.ref (zt_ad G k0), .int x1, .int x2])).length) Slot.unset).toArray = ls at hl ⊢
  have hl : lv_has ls 9 [(0, .ref (zt_ad G k0)), (1, .int x1), (2, .int x2)] := hl
  show W p l e (zt_R 4 95) s m ([.ref (zt_ad G k0), .int x1, .int x2] : List Value).toArray below meth c s.heap [] 0 0 (MQ below (zt_Ci G r σ) ([.ref (zt_ad G k0), .int x1, .int x2] : List Value).toArray s 0 0 (zt_A G)) (F0 m 0 ls [])
  have fl26 := hts (.fieldLink RX6 26 "ZoneTree$Zone" "records" "LZoneTree$Records;") (List.mem_cons_of_mem _ (List.mem_append_left _ (List.mem_append_left _ (List.mem_append_left _ (List.mem_of_getElem? (i := 0) rfl)))))
  have fl33 := hts (.fieldLink RX6 33 "ZoneTree$Zone" "apex" "I") (List.mem_cons_of_mem _ (List.mem_append_left _ (List.mem_append_left _ (List.mem_append_left _ (List.mem_of_getElem? (i := 1) rfl)))))
  have fl39 := zt_Nw.use (args := ([.ref (zt_ad G k0), .int x1, .int x2] : List Value).toArray) hE.2.2.1 (q := ("ZoneTree$Zone", 39, "ZoneTree$Records", "count", "I", "ZoneTree")) (List.mem_of_getElem? (i := 0) rfl)
  have inX4 : ∀ w ∈ wsX40, w ∈ wsX6_nearest := fun w h => (List.mem_cons_of_mem _ (List.mem_append_right _ h))
  have inX6 : ∀ w ∈ wsX60, w ∈ wsX6_nearest := fun w h => (List.mem_cons_of_mem _ (List.mem_append_left _ (List.mem_append_right _ h)))
  have B63 : ∀ (rc5 : Int32 → Int32 → Int32 → Int32 → Option (Int32)) (hrc5 : ∀ (u1 : Int32) (u2 : Int32) (u3 : Int32) (u4 : Int32) (H : Heap) (locs : List Loc) (ls : Array Slot), rc5 u1 u2 u3 u4 = some r → va_P (zt_D G) vwCl (zt_ww G σ) H → va_S (zt_A G) s.heap H locs → lv_has ls 9 [(0, .ref (zt_ad G k0)), (1, .int u1), (2, .int u2), (3, .int u3), (4, .int u4)] → W p l e (zt_R 4 95) s m ([.ref (zt_ad G k0), .int x1, .int x2] : List Value).toArray below meth c H locs 0 0 (MQ below (zt_Ci G r σ) ([.ref (zt_ad G k0), .int x1, .int x2] : List Value).toArray s 0 0 (zt_A G)) (F0 m 5 ls [])), ∀ (n : Nat), ∀ (u1 : Int32) (u2 : Int32) (u3 : Int32) (u4 : Int32) (u6 : Int32) (u7 : Int32) (u8 : Int32) (H : Heap) (locs : List Loc) (ls : Array Slot), f_X6_nearest_63 σ k0 rc5 n u1 u2 u3 u4 u6 u7 u8 = some r → va_P (zt_D G) vwCl (zt_ww G σ) H → va_S (zt_A G) s.heap H locs → lv_has ls 9 [(0, .ref (zt_ad G k0)), (1, .int u1), (2, .int u2), (3, .int u3), (4, .int u4), (6, .int u6), (7, .int u7), (8, .int u8)] → W p l e (zt_R 4 95) s m ([.ref (zt_ad G k0), .int x1, .int x2] : List Value).toArray below meth c H locs 0 0 (MQ below (zt_Ci G r σ) ([.ref (zt_ad G k0), .int x1, .int x2] : List Value).toArray s 0 0 (zt_A G)) (F0 m 63 ls []) := by
    intro rc5 hrc5 n
    induction n with
    | zero => intro u1 u2 u3 u4 u6 u7 u8 H locs ls hf; exact nomatch hf
    | succ n hrc63 =>
      intro u1 u2 u3 u4 u6 u7 u8 H locs ls hf hP hS hl
      generalize hrcg : f_X6_nearest_63 σ k0 rc5 n = rc63 at hrc63
      have hf : f_X6_nearest_63b σ k0 rc5 rc63 u1 u2 u3 u4 u6 u7 u8 = some r := by rw [← hrcg]; exact hf
      unfold f_X6_nearest_63b at hf
      refine lv_iload hx hb dX6_nearest_63 (lv_at hl 7 rfl) ?_
      refine lv_iload hx hb dX6_nearest_65 (lv_at hl 6 rfl) ?_
      refine lv_icmp_gt (tgt := 93) hx hb dX6_nearest_67 (by decide) (fun c12 => ?_) (fun c12 => ?_)
      · have hf := (if_pos c12).symm.trans hf
        refine lv_iinc (v := (u4 + 1)) (lv' := [(4, .int (u4 + 1)), (0, .ref (zt_ad G k0)), (1, .int u1), (2, .int u2), (3, .int u3), (6, .int u6), (7, .int u7), (8, .int u8)]) hx hb dX6_nearest_93 hl (k := 4) rfl rfl (by decide) rfl (fun ls hl => ?_)
        refine lv_goto (tgt := 5) hx hb dX6_nearest_96 (by decide) ?_
        exact hrc5 u1 u2 u3 (u4 + 1) _ _ _ hf hP hS (lv_sub hl [1, 2, 3, 4, 0] rfl)
      · have hf := (if_neg c12).symm.trans hf
        refine lv_aload_n hx hb dX6_nearest_70 rfl (lv_at hl 0 rfl) ?_
        refine lv_iload_n hx hb dX6_nearest_71 rfl (lv_at hl 3 rfl) ?_
        refine lv_iload hx hb dX6_nearest_72 (lv_at hl 5 rfl) ?_
        refine lv_iload_n hx hb dX6_nearest_74 rfl (lv_at hl 1 rfl) ?_
        refine lv_iload_n hx hb dX6_nearest_75 rfl (lv_at hl 2 rfl) ?_
        obtain ⟨v13, hvv13, hf⟩ := zt_bd_some hf
        refine va_calli (va_runV (As := [.int u3, .int u6, .int u1, .int u2]) (rest := []) ⟨hx, hb, hml, hown, hts⟩ (m_X6_nearer l G hk0 (σ := σ) hvv13) (cwV 4 hts gX6_nearest_X6_nearer rfl rfl rfl zh_X6_nearer ⟨Nat.le_of_ble_eq_true rfl, Nat.le_of_ble_eq_true rfl⟩) ⟨zt_blind, va_recv hK hP (ci := 5) (q0 := k0) rfl (zt_a5 hk0), fun U hU hW => ⟨rfl, zt_go hE hP hS zt_id hU hW⟩⟩ rfl rfl hl.1 rfl (lv_room (Nat.le_of_ble_eq_true rfl)) dX6_nearest_76 ⟨Nat.zero_le _, Nat.zero_le _⟩) hS (fun _ _ h => h) (fun _ h => h) (fun r u t H locs ht hvm hw hB _ _ hS => ?_)
        rw [hw.1]; have hB : zt_B G u t := hB; rw [hw.2] at hB; have hP := zt_B.P hB ht
        refine lv_istore_n (lv' := [(3, .int v13), (0, .ref (zt_ad G k0)), (1, .int u1), (2, .int u2), (4, .int u4), (6, .int u6), (7, .int u7), (8, .int u8)]) hx hb dX6_nearest_79 rfl hl (by decide) rfl (fun ls hl => ?_)
        refine lv_iload hx hb dX6_nearest_80 (lv_at hl 5 rfl) ?_
        refine lv_bipush (v := 10) hx hb dX6_nearest_82 (by decide +kernel) ?_
        refine lv_idiv hx hb dX6_nearest_84 (by decide) ?_
        refine lv_istore (lv' := [(6, .int (u6 / 10)), (3, .int v13), (0, .ref (zt_ad G k0)), (1, .int u1), (2, .int u2), (4, .int u4), (7, .int u7), (8, .int u8)]) hx hb dX6_nearest_85 hl (by decide) rfl (fun ls hl => ?_)
        refine lv_iinc (v := (u8 + 1)) (lv' := [(8, .int (u8 + 1)), (6, .int (u6 / 10)), (3, .int v13), (0, .ref (zt_ad G k0)), (1, .int u1), (2, .int u2), (4, .int u4), (7, .int u7)]) hx hb dX6_nearest_87 hl (k := 7) rfl rfl (by decide) rfl (fun ls hl => ?_)
        refine lv_goto (tgt := 63) hx hb dX6_nearest_90 (by decide) ?_
        exact hrc63 u1 u2 v13 u4 (u6 / 10) u7 (u8 + 1) _ _ _ hf hP hS (lv_sub hl [3, 4, 5, 2, 6, 1, 7, 0] rfl)
  have B5 : ∀ (n : Nat), ∀ (u1 : Int32) (u2 : Int32) (u3 : Int32) (u4 : Int32) (H : Heap) (locs : List Loc) (ls : Array Slot), f_X6_nearest_5 σ k0 n u1 u2 u3 u4 = some r → va_P (zt_D G) vwCl (zt_ww G σ) H → va_S (zt_A G) s.heap H locs → lv_has ls 9 [(0, .ref (zt_ad G k0)), (1, .int u1), (2, .int u2), (3, .int u3), (4, .int u4)] → W p l e (zt_R 4 95) s m ([.ref (zt_ad G k0), .int x1, .int x2] : List Value).toArray below meth c H locs 0 0 (MQ below (zt_Ci G r σ) ([.ref (zt_ad G k0), .int x1, .int x2] : List Value).toArray s 0 0 (zt_A G)) (F0 m 5 ls []) := by
    intro n
    induction n with
    | zero => intro u1 u2 u3 u4 H locs ls hf; exact nomatch hf
    | succ n hrc5 =>
      intro u1 u2 u3 u4 H locs ls hf hP hS hl
      generalize hrcg : f_X6_nearest_5 σ k0 n = rc5 at hrc5
      have hf : f_X6_nearest_5b σ k0 rc5 u1 u2 u3 u4 = some r := by rw [← hrcg]; exact hf
      unfold f_X6_nearest_5b at hf
      refine lv_iload hx hb dX6_nearest_5 (lv_at hl 4 rfl) ?_
      refine lv_aload_n hx hb dX6_nearest_7 rfl (lv_at hl 0 rfl) ?_
      refine va_get (D := zt_D G) (ci := 5) (v := .ref (zt_ad G (k0 + 1))) (C := RX6) (T := TX6) (N := 11) hx hb hts inX6 hown hK hP k0 (zt_a5 hk0) rfl 9 (by decide) fl26 (fun _ h9 => h9) rfl dX6_nearest_8 ?_
      refine va_getN (D := zt_D G) (ci := 3) (v := .int (σ (k0 + 1) 4)) (C := RX4) (T := TX4) (N := 5) hx hb hts inX4 hown hK hP (k0 + 1) (zt_a3 (zt_k5_9 hk0)) rfl 4 (by decide) fl39 (fun _ h9 => h9) rfl dX6_nearest_11 ?_
      refine lv_icmp_ge (tgt := 99) hx hb dX6_nearest_14 (by decide) (fun c1 => ?_) (fun c1 => ?_)
      · have hf := (if_pos c1).symm.trans hf
        refine lv_iload_n hx hb dX6_nearest_99 rfl (lv_at hl 3 rfl) ?_
        exact W.iret hx hb hr (fun t ht hW => ⟨⟨_, _, rfl, ⟨Option.some.inj hf, rfl⟩, zt_go hE hP hS zt_id ht hW⟩, hS.F ht⟩) hS.2.2 dX6_nearest_100
      · have hf := (if_neg c1).symm.trans hf
        refine lv_aload_n hx hb dX6_nearest_17 rfl (lv_at hl 0 rfl) ?_
        refine va_get (D := zt_D G) (ci := 5) (v := .ref (zt_ad G (k0 + 1))) (C := RX6) (T := TX6) (N := 11) hx hb hts inX6 hown hK hP k0 (zt_a5 hk0) rfl 9 (by decide) fl26 (fun _ h9 => h9) rfl dX6_nearest_18 ?_
        refine lv_iload hx hb dX6_nearest_21 (lv_at hl 4 rfl) ?_
        obtain ⟨v2, hvv2, hf⟩ := zt_bd_some hf
        refine va_calli (va_runV (As := [.int u4]) (rest := []) ⟨hx, hb, hml, hown, hts⟩ (m_X4_placeAt l G (zt_k5_9 hk0) (σ := σ) hvv2) (cwV 1 hts gX6_nearest_X4_placeAt rfl rfl rfl zh_X4_placeAt ⟨Nat.le_of_ble_eq_true rfl, Nat.le_of_ble_eq_true rfl⟩) ⟨zt_blind, va_recv hK hP (ci := 3) (q0 := (k0 + 1)) rfl (zt_a3 (zt_k5_9 hk0)), fun U hU hW => ⟨rfl, zt_go hE hP hS zt_id hU hW⟩⟩ rfl rfl hl.1 rfl (lv_room (Nat.le_of_ble_eq_true rfl)) dX6_nearest_23 ⟨Nat.zero_le _, Nat.zero_le _⟩) hS (fun _ _ h => h) (fun _ h => h) (fun r u t H locs ht hvm hw hB _ _ hS => ?_)
        rw [hw.1]; have hB : zt_B G u t := hB; rw [hw.2] at hB; have hP := zt_B.P hB ht
        refine lv_istore (lv' := [(5, .int v2), (0, .ref (zt_ad G k0)), (1, .int u1), (2, .int u2), (3, .int u3), (4, .int u4)]) hx hb dX6_nearest_26 hl (by decide) rfl (fun ls hl => ?_)
        refine lv_aload_n hx hb dX6_nearest_28 rfl (lv_at hl 1 rfl) ?_
        refine lv_iload_n hx hb dX6_nearest_29 rfl (lv_at hl 4 rfl) ?_
        refine lv_iload hx hb dX6_nearest_30 (lv_at hl 0 rfl) ?_
        refine lv_iload_n hx hb dX6_nearest_32 rfl (lv_at hl 2 rfl) ?_
        refine lv_iload_n hx hb dX6_nearest_33 rfl (lv_at hl 3 rfl) ?_
        obtain ⟨v4, hvv4, hf⟩ := zt_bd_some hf
        refine va_calli (va_runV (As := [.int u3, .int v2, .int u1, .int u2]) (rest := []) ⟨hx, hb, hml, hown, hts⟩ (m_X6_nearer l G hk0 (σ := σ) hvv4) (cwV 4 hts gX6_nearest_X6_nearer rfl rfl rfl zh_X6_nearer ⟨Nat.le_of_ble_eq_true rfl, Nat.le_of_ble_eq_true rfl⟩) ⟨zt_blind, va_recv hK hP (ci := 5) (q0 := k0) rfl (zt_a5 hk0), fun U hU hW => ⟨rfl, zt_go hE hP hS zt_id hU hW⟩⟩ rfl rfl hl.1 rfl (lv_room (Nat.le_of_ble_eq_true rfl)) dX6_nearest_34 ⟨Nat.zero_le _, Nat.zero_le _⟩) hS (fun _ _ h => h) (fun _ h => h) (fun r u t H locs ht hvm hw hB _ _ hS => ?_)
        rw [hw.1]; have hB : zt_B G u t := hB; rw [hw.2] at hB; have hP := zt_B.P hB ht
        refine lv_istore_n (lv' := [(3, .int v4), (5, .int v2), (0, .ref (zt_ad G k0)), (1, .int u1), (2, .int u2), (4, .int u4)]) hx hb dX6_nearest_37 rfl hl (by decide) rfl (fun ls hl => ?_)
        refine lv_iload hx hb dX6_nearest_38 (lv_at hl 1 rfl) ?_
        obtain ⟨v6, hvv6, hf⟩ := zt_bd_some hf
        refine va_calli (va_runS (As := [.int v2]) (rest := []) ⟨hx, hb, hml, hown, hts⟩ (m_X3_nameOf l G (σ := σ) hvv6) (va_cwS 1 hts gX6_nearest_X3_nameOf rfl rfl rfl zh_X3_nameOf ⟨Nat.le_of_ble_eq_true rfl, Nat.le_of_ble_eq_true rfl⟩) ⟨zt_blind, fun U hU hW => ⟨rfl, zt_go hE hP hS zt_id hU hW⟩⟩ rfl rfl hl.1 rfl (lv_room (Nat.le_of_ble_eq_true rfl)) dX6_nearest_40 ⟨Nat.zero_le _, Nat.zero_le _⟩) hS (fun _ _ h => h) (fun _ h => h) (fun r u t H locs ht hvm hw hB _ _ hS => ?_)
        rw [hw.1]; have hB : zt_B G u t := hB; rw [hw.2] at hB; have hP := zt_B.P hB ht
        refine lv_istore (lv' := [(6, .int v6), (3, .int v4), (5, .int v2), (0, .ref (zt_ad G k0)), (1, .int u1), (2, .int u2), (4, .int u4)]) hx hb dX6_nearest_43 hl (by decide) rfl (fun ls hl => ?_)
        refine lv_iload hx hb dX6_nearest_45 (lv_at hl 0 rfl) ?_
        obtain ⟨v8, hvv8, hf⟩ := zt_bd_some hf
        refine va_calli (va_runS (As := [.int v6]) (rest := []) ⟨hx, hb, hml, hown, hts⟩ (m_X3_figures l G (σ := σ) hvv8) (va_cwS 1 hts gX6_nearest_X3_figures rfl rfl rfl zh_X3_figures ⟨Nat.le_of_ble_eq_true rfl, Nat.le_of_ble_eq_true rfl⟩) ⟨zt_blind, fun U hU hW => ⟨rfl, zt_go hE hP hS zt_id hU hW⟩⟩ rfl rfl hl.1 rfl (lv_room (Nat.le_of_ble_eq_true rfl)) dX6_nearest_47 ⟨Nat.zero_le _, Nat.zero_le _⟩) hS (fun _ _ h => h) (fun _ h => h) (fun r u t H locs ht hvm hw hB _ _ hS => ?_)
        rw [hw.1]; have hB : zt_B G u t := hB; rw [hw.2] at hB; have hP := zt_B.P hB ht
        refine lv_aload_n hx hb dX6_nearest_50 rfl (lv_at hl 3 rfl) ?_
        refine va_get (D := zt_D G) (ci := 5) (v := .int (σ k0 0)) (C := RX6) (T := TX6) (N := 11) hx hb hts inX6 hown hK hP k0 (zt_a5 hk0) rfl 0 (by decide) fl33 (fun _ h9 => h9) rfl dX6_nearest_51 ?_
        obtain ⟨v10, hvv10, hf⟩ := zt_bd_some hf
        refine va_calli (va_runS (As := [.int (σ k0 0)]) (rest := [.int v8]) ⟨hx, hb, hml, hown, hts⟩ (m_X3_figures l G (σ := σ) hvv10) (va_cwS 1 hts gX6_nearest_X3_figures rfl rfl rfl zh_X3_figures ⟨Nat.le_of_ble_eq_true rfl, Nat.le_of_ble_eq_true rfl⟩) ⟨zt_blind, fun U hU hW => ⟨rfl, zt_go hE hP hS zt_id hU hW⟩⟩ rfl rfl hl.1 rfl (lv_room (Nat.le_of_ble_eq_true rfl)) dX6_nearest_54 ⟨Nat.zero_le _, Nat.zero_le _⟩) hS (fun _ _ h => h) (fun _ h => h) (fun r u t H locs ht hvm hw hB _ _ hS => ?_)
        rw [hw.1]; have hB : zt_B G u t := hB; rw [hw.2] at hB; have hP := zt_B.P hB ht
        refine lv_isub hx hb dX6_nearest_57 ?_
        refine lv_istore (lv' := [(7, .int (v8 - v10)), (6, .int v6), (3, .int v4), (5, .int v2), (0, .ref (zt_ad G k0)), (1, .int u1), (2, .int u2), (4, .int u4)]) hx hb dX6_nearest_58 hl (by decide) rfl (fun ls hl => ?_)
        refine lv_iconst (v := 0) hx hb dX6_nearest_60 (by decide) ?_
        refine lv_istore (lv' := [(8, .int 0), (7, .int (v8 - v10)), (6, .int v6), (3, .int v4), (5, .int v2), (0, .ref (zt_ad G k0)), (1, .int u1), (2, .int u2), (4, .int u4)]) hx hb dX6_nearest_61 hl (by decide) rfl (fun ls hl => ?_)
        exact B63 rc5 hrc5 zt_FU u1 u2 v4 u4 v6 (v8 - v10) 0 _ _ _ hf hP hS (lv_sub hl [5, 6, 7, 3, 8, 2, 1, 0] rfl)
  unfold f_X6_nearest at hf
  refine lv_iconst (v := (-1)) hx hb dX6_nearest_0 (by decide) ?_
  refine lv_istore_n (lv' := [(3, .int (-1)), (0, .ref (zt_ad G k0)), (1, .int x1), (2, .int x2)]) hx hb dX6_nearest_1 rfl hl (by decide) rfl (fun ls hl => ?_)
  refine lv_iconst (v := 0) hx hb dX6_nearest_2 (by decide) ?_
  refine lv_istore (lv' := [(4, .int 0), (3, .int (-1)), (0, .ref (zt_ad G k0)), (1, .int x1), (2, .int x2)]) hx hb dX6_nearest_3 hl (by decide) rfl (fun ls hl => ?_)
  exact B5 zt_FU x1 x2 (-1) 0 _ _ _ hf hP hS (lv_sub hl [2, 3, 4, 1, 0] rfl)

theorem zh_X6_renewCopy : yX6_renewCopy.cls = RX6 ∧ yX6_renewCopy.cls ≠ "java/lang/invoke/MethodHandle" ∧ yX6_renewCopy.cls ≠ "java/lang/invoke/VarHandle" ∧ (parseMethodDescriptor yX6_renewCopy.desc).map (fun d => d.parameters.length) = some 0 := by decide +kernel
set_option maxHeartbeats 4000000 in
set_option maxRecDepth 100000 in
theorem m_X6_renewCopy (l : Launch) (G : zt_G) {σ : zt_St} {k0 : Nat} (hk0 : zt_kd k0 = 5) {r : Int32} {σ1 : zt_St} (hf : f_X6_renewCopy σ k0 = some (r, σ1)) : zt_Mi l G yX6_renewCopy wsX6_renewCopy 2 47 [.ref (zt_ad G k0)] σ r σ1 := by
  refine Met.ofW (cc := cX6_renewCopy) (maxL := 3) (ret := (some .int)) (by decide) rfl ?_
  intro p e s m args below meth c s₁ B hml hv
  obtain ⟨rfl, hBB⟩ := hv
  have hE := zt_B.env hBB; have hK := hE.2.1; have hP := hBB.2.1
  have hx := B.exec; have hb := B.bytes; have hr := B.returns; have hts := atoms_spec (ws := wsX6_renewCopy) B.pre
  have hown : s.vm.findClass RX6 = some m.cls := findClass_of_methodNamed B.named
  have hlocks := B.notSynchronized
  have hS : va_S (zt_A G) s.heap s.heap [] := va_S.rf
  have hl := lv_entry ([.ref (zt_ad G k0)]) (n := 3) (Nat.le_of_ble_eq_true rfl)
  rw [lg_entry_eq]
  generalize (lg_sl ([.ref (zt_ad G k0)]) ++ List.replicate (3 - (lg_sl ([.ref (zt_ad G k0)])).length) Slot.unset).toArray = ls at hl ⊢
  have hl : lv_has ls 3 [(0, .ref (zt_ad G k0))] := hl
  show W p l e (zt_R 2 47) s m ([.ref (zt_ad G k0)] : List Value).toArray below meth c s.heap [] 0 0 (MQ below (zt_Ci G r σ1) ([.ref (zt_ad G k0)] : List Value).toArray s 0 0 (zt_A G)) (F0 m 0 ls [])
  have fl9 := hts (.fieldLink RX6 9 "ZoneTree$Zone" "copySerial" "I") (List.mem_cons_of_mem _ (List.mem_append_left _ (List.mem_append_left _ (List.mem_append_left _ (List.mem_of_getElem? (i := 0) rfl)))))
  have fl26 := hts (.fieldLink RX6 26 "ZoneTree$Zone" "records" "LZoneTree$Records;") (List.mem_cons_of_mem _ (List.mem_append_left _ (List.mem_append_left _ (List.mem_append_left _ (List.mem_of_getElem? (i := 2) rfl)))))
  have fl30 := hts (.fieldLink RX6 30 "ZoneTree$Zone" "copy" "LZoneTree$Records;") (List.mem_cons_of_mem _ (List.mem_append_left _ (List.mem_append_left _ (List.mem_append_left _ (List.mem_of_getElem? (i := 3) rfl)))))
  have fl36 := hts (.fieldLink RX6 36 "ZoneTree$Zone" "serial" "I") (List.mem_cons_of_mem _ (List.mem_append_left _ (List.mem_append_left _ (List.mem_append_left _ (List.mem_of_getElem? (i := 1) rfl)))))
  have fl39 := zt_Nw.use (args := ([.ref (zt_ad G k0)] : List Value).toArray) hE.2.2.1 (q := ("ZoneTree$Zone", 39, "ZoneTree$Records", "count", "I", "ZoneTree")) (List.mem_of_getElem? (i := 0) rfl)
  have inX4 : ∀ w ∈ wsX40, w ∈ wsX6_renewCopy := fun w h => (List.mem_cons_of_mem _ (List.mem_append_right _ h))
  have inX6 : ∀ w ∈ wsX60, w ∈ wsX6_renewCopy := fun w h => (List.mem_cons_of_mem _ (List.mem_append_left _ (List.mem_append_right _ h)))
  have B86 : ∀ (σ : zt_St) (u2 : Int32) (H : Heap) (locs : List Loc) (ls : Array Slot), f_X6_renewCopy_86 k0 σ u2 = some (r, σ1) → va_P (zt_D G) vwCl (zt_ww G σ) H → va_S (zt_A G) s.heap H locs → lv_has ls 3 [(0, .ref (zt_ad G k0)), (2, .int u2)] → W p l e (zt_R 2 47) s m ([.ref (zt_ad G k0)] : List Value).toArray below meth c H locs 0 0 (MQ below (zt_Ci G r σ1) ([.ref (zt_ad G k0)] : List Value).toArray s 0 0 (zt_A G)) (F0 m 86 ls []) := by
    intro σ u2 H locs ls hf hP hS hl
    unfold f_X6_renewCopy_86 at hf
    refine lv_aload_n hx hb dX6_renewCopy_86 rfl (lv_at hl 0 rfl) ?_
    refine va_get (D := zt_D G) (ci := 5) (v := .ref (zt_ad G (k0 + 6))) (C := RX6) (T := TX6) (N := 11) hx hb hts inX6 hown hK hP k0 (zt_a5 hk0) rfl 10 (by decide) fl30 (fun _ h9 => h9) rfl dX6_renewCopy_87 ?_
    refine lv_aload_n hx hb dX6_renewCopy_90 rfl (lv_at hl 0 rfl) ?_
    refine va_get (D := zt_D G) (ci := 5) (v := .ref (zt_ad G (k0 + 1))) (C := RX6) (T := TX6) (N := 11) hx hb hts inX6 hown hK hP k0 (zt_a5 hk0) rfl 9 (by decide) fl26 (fun _ h9 => h9) rfl dX6_renewCopy_91 ?_
    obtain ⟨σ10, hvv9, hf⟩ := zt_bd_some hf
    refine va_callv (va_runV (As := [.ref (zt_ad G (k0 + 1))]) (rest := []) ⟨hx, hb, hml, hown, hts⟩ (m_X4_become l G (zt_k5_10 hk0) (zt_k5_9 hk0) (σ := σ) hvv9) (cwV 1 hts gX6_renewCopy_X4_become rfl rfl rfl zh_X4_become ⟨Nat.le_of_ble_eq_true rfl, Nat.le_of_ble_eq_true rfl⟩) ⟨zt_blind, va_recv hK hP (ci := 3) (q0 := (k0 + 6)) rfl (zt_a3 (zt_k5_10 hk0)), fun U hU hW => ⟨rfl, zt_go hE hP hS zt_id hU hW⟩⟩ rfl rfl hl.1 rfl (lv_room (Nat.le_of_ble_eq_true rfl)) dX6_renewCopy_94 ⟨Nat.zero_le _, Nat.zero_le _⟩) hS (fun _ _ h => h) (fun _ h => h) (fun u t H locs ht hvm hw hB _ _ hS => ?_)
    have hB : zt_B G u t := hB; rw [hw] at hB; have hP := zt_B.P hB ht
    refine lv_aload_n hx hb dX6_renewCopy_97 rfl (lv_at hl 0 rfl) ?_
    refine lv_aload_n hx hb dX6_renewCopy_98 rfl (lv_at hl 0 rfl) ?_
    refine va_get (D := zt_D G) (ci := 5) (v := .int (σ10 k0 2)) (C := RX6) (T := TX6) (N := 11) hx hb hts inX6 hown hK hP k0 (zt_a5 hk0) rfl 2 (by decide) fl36 (fun _ h9 => h9) rfl dX6_renewCopy_99 ?_
    obtain ⟨σ11, hσ11, hf⟩ := zt_lt_some hf
    refine va_put (D := zt_D G) (ci := 5) (v := .int (σ10 k0 2)) (ty := .int) (C := RX6) (T := TX6) (N := 11) hx hb hts inX6 tyX6 tyX6_ok nmX6 hown hK hP (zt_apart hE.1) hS k0 (zt_a5 hk0) rfl 3 (by decide) fl9 (fun _ h9 => h9) rfl (tyX6_ok 3 (by decide)) rfl rfl (Nat.le_of_ble_eq_true rfl) dX6_renewCopy_102 (fun H locs hP _ hS => ?_)
    rw [zt_p5_3 hk0, ← hσ11] at hP
    refine lv_iload_n hx hb dX6_renewCopy_105 rfl (lv_at hl 1 rfl) ?_
    exact W.iret hx hb hr (fun t ht hW => ⟨⟨_, _, rfl, (Prod.mk.inj (Option.some.inj hf)), zt_go hE hP hS zt_id ht hW⟩, hS.F ht⟩) hS.2.2 dX6_renewCopy_106
  have B39 : ∀ (σ : zt_St) (y0 : Int32) (y1 : Int32) (H : Heap) (locs : List Loc) (ls : Array Slot), f_X6_renewCopy_39 k0 σ y0 y1 = some (r, σ1) → va_P (zt_D G) vwCl (zt_ww G σ) H → va_S (zt_A G) s.heap H locs → lv_has ls 3 [(0, .ref (zt_ad G k0))] → W p l e (zt_R 2 47) s m ([.ref (zt_ad G k0)] : List Value).toArray below meth c H locs 0 0 (MQ below (zt_Ci G r σ1) ([.ref (zt_ad G k0)] : List Value).toArray s 0 0 (zt_A G)) (F0 m 39 ls [.int y0, .int y1]) := by
    intro σ y0 y1 H locs ls hf hP hS hl
    unfold f_X6_renewCopy_39 at hf
    refine lv_iadd hx hb dX6_renewCopy_39 ?_
    refine lv_istore_n (lv' := [(1, .int (y1 + y0)), (0, .ref (zt_ad G k0))]) hx hb dX6_renewCopy_40 rfl hl (by decide) rfl (fun ls hl => ?_)
    refine lv_aload_n hx hb dX6_renewCopy_41 rfl (lv_at hl 1 rfl) ?_
    refine va_get (D := zt_D G) (ci := 5) (v := .ref (zt_ad G (k0 + 1))) (C := RX6) (T := TX6) (N := 11) hx hb hts inX6 hown hK hP k0 (zt_a5 hk0) rfl 9 (by decide) fl26 (fun _ h9 => h9) rfl dX6_renewCopy_42 ?_
    refine va_getN (D := zt_D G) (ci := 3) (v := .int (σ (k0 + 1) 4)) (C := RX4) (T := TX4) (N := 5) hx hb hts inX4 hown hK hP (k0 + 1) (zt_a3 (zt_k5_9 hk0)) rfl 4 (by decide) fl39 (fun _ h9 => h9) rfl dX6_renewCopy_45 ?_
    refine lv_istore_n (lv' := [(2, .int (σ (k0 + 1) 4)), (1, .int (y1 + y0)), (0, .ref (zt_ad G k0))]) hx hb dX6_renewCopy_48 rfl hl (by decide) rfl (fun ls hl => ?_)
    refine lv_aload_n hx hb dX6_renewCopy_49 rfl (lv_at hl 2 rfl) ?_
    refine va_get (D := zt_D G) (ci := 5) (v := .int (σ k0 3)) (C := RX6) (T := TX6) (N := 11) hx hb hts inX6 hown hK hP k0 (zt_a5 hk0) rfl 3 (by decide) fl9 (fun _ h9 => h9) rfl dX6_renewCopy_50 ?_
    refine lv_iconst (v := (-1)) hx hb dX6_renewCopy_53 (by decide) ?_
    refine lv_icmp_eq (tgt := 86) hx hb dX6_renewCopy_54 (by decide) (fun c3 => ?_) (fun c3 => ?_)
    · have hf := (if_pos c3).symm.trans hf
      exact B86 σ (σ (k0 + 1) 4) _ _ _ hf hP hS (lv_sub hl [2, 0] rfl)
    · have hf := (if_neg c3).symm.trans hf
      refine lv_iload_n hx hb dX6_renewCopy_57 rfl (lv_at hl 1 rfl) ?_
      refine lv_iconst (v := 4) hx hb dX6_renewCopy_58 (by decide) ?_
      refine lv_icmp_gt (tgt := 86) hx hb dX6_renewCopy_59 (by decide) (fun c4 => ?_) (fun c4 => ?_)
      · have hf := (if_pos c4).symm.trans hf
        exact B86 σ (σ (k0 + 1) 4) _ _ _ hf hP hS (lv_sub hl [2, 0] rfl)
      · have hf := (if_neg c4).symm.trans hf
        refine lv_aload_n hx hb dX6_renewCopy_62 rfl (lv_at hl 2 rfl) ?_
        refine va_get (D := zt_D G) (ci := 5) (v := .ref (zt_ad G (k0 + 1))) (C := RX6) (T := TX6) (N := 11) hx hb hts inX6 hown hK hP k0 (zt_a5 hk0) rfl 9 (by decide) fl26 (fun _ h9 => h9) rfl dX6_renewCopy_63 ?_
        refine lv_aload_n hx hb dX6_renewCopy_66 rfl (lv_at hl 2 rfl) ?_
        refine va_get (D := zt_D G) (ci := 5) (v := .ref (zt_ad G (k0 + 6))) (C := RX6) (T := TX6) (N := 11) hx hb hts inX6 hown hK hP k0 (zt_a5 hk0) rfl 10 (by decide) fl30 (fun _ h9 => h9) rfl dX6_renewCopy_67 ?_
        obtain ⟨v5, hvv5, hf⟩ := zt_bd_some hf
        refine va_calli (va_runV (As := [.ref (zt_ad G (k0 + 6))]) (rest := []) ⟨hx, hb, hml, hown, hts⟩ (m_X4_countNotIn l G (zt_k5_9 hk0) (zt_k5_10 hk0) (σ := σ) hvv5) (cwV 1 hts gX6_renewCopy_X4_countNotIn rfl rfl rfl zh_X4_countNotIn ⟨Nat.le_of_ble_eq_true rfl, Nat.le_of_ble_eq_true rfl⟩) ⟨zt_blind, va_recv hK hP (ci := 3) (q0 := (k0 + 1)) rfl (zt_a3 (zt_k5_9 hk0)), fun U hU hW => ⟨rfl, zt_go hE hP hS zt_id hU hW⟩⟩ rfl rfl hl.1 rfl (lv_room (Nat.le_of_ble_eq_true rfl)) dX6_renewCopy_70 ⟨Nat.zero_le _, Nat.zero_le _⟩) hS (fun _ _ h => h) (fun _ h => h) (fun r u t H locs ht hvm hw hB _ _ hS => ?_)
        rw [hw.1]; have hB : zt_B G u t := hB; rw [hw.2] at hB; have hP := zt_B.P hB ht
        refine lv_aload_n hx hb dX6_renewCopy_73 rfl (lv_at hl 2 rfl) ?_
        refine va_get (D := zt_D G) (ci := 5) (v := .ref (zt_ad G (k0 + 6))) (C := RX6) (T := TX6) (N := 11) hx hb hts inX6 hown hK hP k0 (zt_a5 hk0) rfl 10 (by decide) fl30 (fun _ h9 => h9) rfl dX6_renewCopy_74 ?_
        refine lv_aload_n hx hb dX6_renewCopy_77 rfl (lv_at hl 2 rfl) ?_
        refine va_get (D := zt_D G) (ci := 5) (v := .ref (zt_ad G (k0 + 1))) (C := RX6) (T := TX6) (N := 11) hx hb hts inX6 hown hK hP k0 (zt_a5 hk0) rfl 9 (by decide) fl26 (fun _ h9 => h9) rfl dX6_renewCopy_78 ?_
        obtain ⟨v7, hvv7, hf⟩ := zt_bd_some hf
        refine va_calli (va_runV (As := [.ref (zt_ad G (k0 + 1))]) (rest := [.int v5]) ⟨hx, hb, hml, hown, hts⟩ (m_X4_countNotIn l G (zt_k5_10 hk0) (zt_k5_9 hk0) (σ := σ) hvv7) (cwV 1 hts gX6_renewCopy_X4_countNotIn rfl rfl rfl zh_X4_countNotIn ⟨Nat.le_of_ble_eq_true rfl, Nat.le_of_ble_eq_true rfl⟩) ⟨zt_blind, va_recv hK hP (ci := 3) (q0 := (k0 + 6)) rfl (zt_a3 (zt_k5_10 hk0)), fun U hU hW => ⟨rfl, zt_go hE hP hS zt_id hU hW⟩⟩ rfl rfl hl.1 rfl (lv_room (Nat.le_of_ble_eq_true rfl)) dX6_renewCopy_81 ⟨Nat.zero_le _, Nat.zero_le _⟩) hS (fun _ _ h => h) (fun _ h => h) (fun r u t H locs ht hvm hw hB _ _ hS => ?_)
        rw [hw.1]; have hB : zt_B G u t := hB; rw [hw.2] at hB; have hP := zt_B.P hB ht
        refine lv_iadd hx hb dX6_renewCopy_84 ?_
        refine lv_istore_n (lv' := [(2, .int (v5 + v7)), (1, .int (y1 + y0)), (0, .ref (zt_ad G k0))]) hx hb dX6_renewCopy_85 rfl hl (by decide) rfl (fun ls hl => ?_)
        exact B86 σ (v5 + v7) _ _ _ hf hP hS (lv_sub hl [2, 0] rfl)
  unfold f_X6_renewCopy at hf
  refine lv_aload_n hx hb dX6_renewCopy_0 rfl (lv_at hl 0 rfl) ?_
  refine va_get (D := zt_D G) (ci := 5) (v := .int (σ k0 3)) (C := RX6) (T := TX6) (N := 11) hx hb hts inX6 hown hK hP k0 (zt_a5 hk0) rfl 3 (by decide) fl9 (fun _ h9 => h9) rfl dX6_renewCopy_1 ?_
  refine lv_aload_n hx hb dX6_renewCopy_4 rfl (lv_at hl 0 rfl) ?_
  refine va_get (D := zt_D G) (ci := 5) (v := .int (σ k0 2)) (C := RX6) (T := TX6) (N := 11) hx hb hts inX6 hown hK hP k0 (zt_a5 hk0) rfl 2 (by decide) fl36 (fun _ h9 => h9) rfl dX6_renewCopy_5 ?_
  refine lv_icmp_ne (tgt := 13) hx hb dX6_renewCopy_8 (by decide) (fun c1 => ?_) (fun c1 => ?_)
  · have hf := (if_neg c1).symm.trans hf
    refine lv_aload_n hx hb dX6_renewCopy_13 rfl (lv_at hl 0 rfl) ?_
    refine va_get (D := zt_D G) (ci := 5) (v := .int (σ k0 2)) (C := RX6) (T := TX6) (N := 11) hx hb hts inX6 hown hK hP k0 (zt_a5 hk0) rfl 2 (by decide) fl36 (fun _ h9 => h9) rfl dX6_renewCopy_14 ?_
    refine lv_aload_n hx hb dX6_renewCopy_17 rfl (lv_at hl 0 rfl) ?_
    refine va_get (D := zt_D G) (ci := 5) (v := .int (σ k0 3)) (C := RX6) (T := TX6) (N := 11) hx hb hts inX6 hown hK hP k0 (zt_a5 hk0) rfl 3 (by decide) fl9 (fun _ h9 => h9) rfl dX6_renewCopy_18 ?_
    refine lv_isub hx hb dX6_renewCopy_21 ?_
    refine lv_aload_n hx hb dX6_renewCopy_22 rfl (lv_at hl 0 rfl) ?_
    refine va_get (D := zt_D G) (ci := 5) (v := .int (σ k0 2)) (C := RX6) (T := TX6) (N := 11) hx hb hts inX6 hown hK hP k0 (zt_a5 hk0) rfl 2 (by decide) fl36 (fun _ h9 => h9) rfl dX6_renewCopy_23 ?_
    refine lv_aload_n hx hb dX6_renewCopy_26 rfl (lv_at hl 0 rfl) ?_
    refine va_get (D := zt_D G) (ci := 5) (v := .int (σ k0 3)) (C := RX6) (T := TX6) (N := 11) hx hb hts inX6 hown hK hP k0 (zt_a5 hk0) rfl 3 (by decide) fl9 (fun _ h9 => h9) rfl dX6_renewCopy_27 ?_
    refine lv_icmp_ge (tgt := 38) hx hb dX6_renewCopy_30 (by decide) (fun c2 => ?_) (fun c2 => ?_)
    · have hf := (if_pos c2).symm.trans hf
      refine lv_iconst (v := 0) hx hb dX6_renewCopy_38 (by decide) ?_
      exact B39 σ 0 ((σ k0 2) - (σ k0 3)) _ _ _ hf hP hS (lv_sub hl [0] rfl)
    · have hf := (if_neg c2).symm.trans hf
      refine lv_bipush (v := 16) hx hb dX6_renewCopy_33 (by decide +kernel) ?_
      refine lv_goto (tgt := 39) hx hb dX6_renewCopy_35 (by decide) ?_
      exact B39 σ 16 ((σ k0 2) - (σ k0 3)) _ _ _ hf hP hS (lv_sub hl [0] rfl)
  · have hf := (if_pos c1).symm.trans hf
    refine lv_iconst (v := 0) hx hb dX6_renewCopy_11 (by decide) ?_
    exact W.iret hx hb hr (fun t ht hW => ⟨⟨_, _, rfl, (Prod.mk.inj (Option.some.inj hf)), zt_go hE hP hS zt_id ht hW⟩, hS.F ht⟩) hS.2.2 dX6_renewCopy_12

theorem zh_X6_changeKey : yX6_changeKey.cls = RX6 ∧ yX6_changeKey.cls ≠ "java/lang/invoke/MethodHandle" ∧ yX6_changeKey.cls ≠ "java/lang/invoke/VarHandle" ∧ (parseMethodDescriptor yX6_changeKey.desc).map (fun d => d.parameters.length) = some 2 := by decide +kernel
set_option maxHeartbeats 4000000 in
set_option maxRecDepth 100000 in
theorem m_X6_changeKey (l : Launch) (G : zt_G) {σ : zt_St} {k0 : Nat} (hk0 : zt_kd k0 = 5) {x1 : Int32} {x2 : Int32} {r : Int32} {σ1 : zt_St} (hf : f_X6_changeKey σ k0 x1 x2 = some (r, σ1)) : zt_Mi l G yX6_changeKey wsX6_changeKey 0 0 [.ref (zt_ad G k0), .int x1, .int x2] σ r σ1 := by
  refine Met.ofW (cc := cX6_changeKey) (maxL := 4) (ret := (some .int)) (by decide) rfl ?_
  intro p e s m args below meth c s₁ B hml hv
  obtain ⟨rfl, hBB⟩ := hv
  have hE := zt_B.env hBB; have hK := hE.2.1; have hP := hBB.2.1
  have hx := B.exec; have hb := B.bytes; have hr := B.returns; have hts := atoms_spec (ws := wsX6_changeKey) B.pre
  have hown : s.vm.findClass RX6 = some m.cls := findClass_of_methodNamed B.named
  have hlocks := B.notSynchronized
  have hS : va_S (zt_A G) s.heap s.heap [] := va_S.rf
  have hl := lv_entry ([.ref (zt_ad G k0), .int x1, .int x2]) (n := 4) (Nat.le_of_ble_eq_true rfl)
  rw [lg_entry_eq]
  generalize (lg_sl ([.ref (zt_ad G k0), .int x1, .int x2]) ++ List.replicate (4 - (lg_sl ([.ref (zt_ad G k0), .int x1, .int x2])).length) Slot.unset).toArray = ls at hl ⊢
  have hl : lv_has ls 4 [(0, .ref (zt_ad G k0)), (1, .int x1), (2, .int x2)] := hl
  show W p l e (zt_R 0 0) s m ([.ref (zt_ad G k0), .int x1, .int x2] : List Value).toArray below meth c s.heap [] 0 0 (MQ below (zt_Ci G r σ1) ([.ref (zt_ad G k0), .int x1, .int x2] : List Value).toArray s 0 0 (zt_A G)) (F0 m 0 ls [])
  have fl15 := hts (.fieldLink RX6 15 "ZoneTree$Zone" "firstKey" "I") (List.mem_cons_of_mem _ (List.mem_append_left _ (List.mem_of_getElem? (i := 0) rfl)))
  have fl18 := hts (.fieldLink RX6 18 "ZoneTree$Zone" "secondKey" "I") (List.mem_cons_of_mem _ (List.mem_append_left _ (List.mem_of_getElem? (i := 1) rfl)))
  have inX6 : ∀ w ∈ wsX60, w ∈ wsX6_changeKey := fun w h => (List.mem_cons_of_mem _ (List.mem_append_right _ h))
  have B15 : ∀ (σ : zt_St) (y0 : Int32) (u1 : Int32) (u2 : Int32) (H : Heap) (locs : List Loc) (ls : Array Slot), f_X6_changeKey_15 k0 σ y0 u1 u2 = some (r, σ1) → va_P (zt_D G) vwCl (zt_ww G σ) H → va_S (zt_A G) s.heap H locs → lv_has ls 4 [(0, .ref (zt_ad G k0)), (1, .int u1), (2, .int u2)] → W p l e (zt_R 0 0) s m ([.ref (zt_ad G k0), .int x1, .int x2] : List Value).toArray below meth c H locs 0 0 (MQ below (zt_Ci G r σ1) ([.ref (zt_ad G k0), .int x1, .int x2] : List Value).toArray s 0 0 (zt_A G)) (F0 m 15 ls [.int y0]) := by
    intro σ y0 u1 u2 H locs ls hf hP hS hl
    unfold f_X6_changeKey_15 at hf
    refine lv_istore_n (lv' := [(3, .int y0), (0, .ref (zt_ad G k0)), (1, .int u1), (2, .int u2)]) hx hb dX6_changeKey_15 rfl hl (by decide) rfl (fun ls hl => ?_)
    refine lv_iload_n hx hb dX6_changeKey_16 rfl (lv_at hl 2 rfl) ?_
    refine lv_if_ne (tgt := 28) hx hb dX6_changeKey_17 (by decide) (fun c2 => ?_) (fun c2 => ?_)
    · have hf := (if_neg c2).symm.trans hf
      refine lv_aload_n hx hb dX6_changeKey_28 rfl (lv_at hl 1 rfl) ?_
      refine lv_iload_n hx hb dX6_changeKey_29 rfl (lv_at hl 3 rfl) ?_
      obtain ⟨σ3, hσ3, hf⟩ := zt_lt_some hf
      refine va_put (D := zt_D G) (ci := 5) (v := .int u2) (ty := .int) (C := RX6) (T := TX6) (N := 11) hx hb hts inX6 tyX6 tyX6_ok nmX6 hown hK hP (zt_apart hE.1) hS k0 (zt_a5 hk0) rfl 6 (by decide) fl18 (fun _ h9 => h9) rfl (tyX6_ok 6 (by decide)) rfl rfl (Nat.le_of_ble_eq_true rfl) dX6_changeKey_30 (fun H locs hP _ hS => ?_)
      rw [zt_p5_6 hk0, ← hσ3] at hP
      refine lv_iload_n hx hb dX6_changeKey_33 rfl (lv_at hl 0 rfl) ?_
      exact W.iret hx hb hr (fun t ht hW => ⟨⟨_, _, rfl, (Prod.mk.inj (Option.some.inj hf)), zt_go hE hP hS zt_id ht hW⟩, hS.F ht⟩) hS.2.2 dX6_changeKey_34
    · have hf := (if_pos c2).symm.trans hf
      refine lv_aload_n hx hb dX6_changeKey_20 rfl (lv_at hl 1 rfl) ?_
      refine lv_iload_n hx hb dX6_changeKey_21 rfl (lv_at hl 3 rfl) ?_
      obtain ⟨σ4, hσ4, hf⟩ := zt_lt_some hf
      refine va_put (D := zt_D G) (ci := 5) (v := .int u2) (ty := .int) (C := RX6) (T := TX6) (N := 11) hx hb hts inX6 tyX6 tyX6_ok nmX6 hown hK hP (zt_apart hE.1) hS k0 (zt_a5 hk0) rfl 5 (by decide) fl15 (fun _ h9 => h9) rfl (tyX6_ok 5 (by decide)) rfl rfl (Nat.le_of_ble_eq_true rfl) dX6_changeKey_22 (fun H locs hP _ hS => ?_)
      rw [zt_p5_5 hk0, ← hσ4] at hP
      refine lv_goto (tgt := 33) hx hb dX6_changeKey_25 (by decide) ?_
      refine lv_iload_n hx hb dX6_changeKey_33 rfl (lv_at hl 0 rfl) ?_
      exact W.iret hx hb hr (fun t ht hW => ⟨⟨_, _, rfl, (Prod.mk.inj (Option.some.inj hf)), zt_go hE hP hS zt_id ht hW⟩, hS.F ht⟩) hS.2.2 dX6_changeKey_34
  unfold f_X6_changeKey at hf
  refine lv_iload_n hx hb dX6_changeKey_0 rfl (lv_at hl 1 rfl) ?_
  refine lv_if_ne (tgt := 11) hx hb dX6_changeKey_1 (by decide) (fun c1 => ?_) (fun c1 => ?_)
  · have hf := (if_neg c1).symm.trans hf
    refine lv_aload_n hx hb dX6_changeKey_11 rfl (lv_at hl 0 rfl) ?_
    refine va_get (D := zt_D G) (ci := 5) (v := .int (σ k0 6)) (C := RX6) (T := TX6) (N := 11) hx hb hts inX6 hown hK hP k0 (zt_a5 hk0) rfl 6 (by decide) fl18 (fun _ h9 => h9) rfl dX6_changeKey_12 ?_
    exact B15 σ (σ k0 6) x1 x2 _ _ _ hf hP hS (lv_sub hl [0, 1, 2] rfl)
  · have hf := (if_pos c1).symm.trans hf
    refine lv_aload_n hx hb dX6_changeKey_4 rfl (lv_at hl 0 rfl) ?_
    refine va_get (D := zt_D G) (ci := 5) (v := .int (σ k0 5)) (C := RX6) (T := TX6) (N := 11) hx hb hts inX6 hown hK hP k0 (zt_a5 hk0) rfl 5 (by decide) fl15 (fun _ h9 => h9) rfl dX6_changeKey_5 ?_
    refine lv_goto (tgt := 15) hx hb dX6_changeKey_8 (by decide) ?_
    exact B15 σ (σ k0 5) x1 x2 _ _ _ hf hP hS (lv_sub hl [0, 1, 2] rfl)

theorem zh_X7_isOneAt : yX7_isOneAt.cls = RX7 ∧ yX7_isOneAt.cls ≠ "java/lang/invoke/MethodHandle" ∧ yX7_isOneAt.cls ≠ "java/lang/invoke/VarHandle" ∧ (parseMethodDescriptor yX7_isOneAt.desc).map (fun d => d.parameters.length) = some 1 := by decide +kernel
set_option maxHeartbeats 4000000 in
set_option maxRecDepth 100000 in
theorem m_X7_isOneAt (l : Launch) (G : zt_G) {σ : zt_St} {x1 : Int32} {r : Int32} (hf : f_X7_isOneAt σ x1 = some r) : zt_Mi l G yX7_isOneAt wsX7_isOneAt 1 21 [.ref (zt_ad G 1), .int x1] σ r σ := by
  refine Met.ofW (cc := cX7_isOneAt) (maxL := 3) (ret := (some .boolean)) (by decide) rfl ?_
  intro p e s m args below meth c s₁ B hml hv
  obtain ⟨rfl, hBB⟩ := hv
  have hE := zt_B.env hBB; have hK := hE.2.1; have hP := hBB.2.1
  have hx := B.exec; have hb := B.bytes; have hr := B.returns; have hts := atoms_spec (ws := wsX7_isOneAt) B.pre
  have hown : s.vm.findClass RX7 = some m.cls := findClass_of_methodNamed B.named
  have hlocks := B.notSynchronized
  have hS : va_S (zt_A G) s.heap s.heap [] := va_S.rf
  have hl := lv_entry ([.ref (zt_ad G 1), .int x1]) (n := 3) (Nat.le_of_ble_eq_true rfl)
  rw [lg_entry_eq]
  generalize (lg_sl ([.ref (zt_ad G 1), .int x1]) ++ List.replicate (3 - (lg_sl ([.ref (zt_ad G 1), .int x1])).length) Slot.unset).toArray = ls at hl ⊢
  have hl : lv_has ls 3 [(0, .ref (zt_ad G 1)), (1, .int x1)] := hl
  show W p l e (zt_R 1 21) s m ([.ref (zt_ad G 1), .int x1] : List Value).toArray below meth c s.heap [] 0 0 (MQ below (zt_Ci G r σ) ([.ref (zt_ad G 1), .int x1] : List Value).toArray s 0 0 (zt_A G)) (F0 m 0 ls [])
  have fl22 := hts (.fieldLink RX7 22 "ZoneTree$Zones" "count" "I") (List.mem_cons_of_mem _ (List.mem_append_left _ (List.mem_append_left _ (List.mem_of_getElem? (i := 0) rfl))))
  have fl29 := zt_Nw.use (args := ([.ref (zt_ad G 1), .int x1] : List Value).toArray) hE.2.2.1 (q := ("ZoneTree$Zones", 29, "ZoneTree$Zone", "apex", "I", "ZoneTree")) (List.mem_of_getElem? (i := 1) rfl)
  have inX6 : ∀ w ∈ wsX60, w ∈ wsX7_isOneAt := fun w h => (List.mem_cons_of_mem _ (List.mem_append_right _ h))
  have inX7 : ∀ w ∈ wsX70, w ∈ wsX7_isOneAt := fun w h => (List.mem_cons_of_mem _ (List.mem_append_left _ (List.mem_append_right _ h)))
  have B2 : ∀ (n : Nat), ∀ (u1 : Int32) (u2 : Int32) (H : Heap) (locs : List Loc) (ls : Array Slot), f_X7_isOneAt_2 σ n u1 u2 = some r → va_P (zt_D G) vwCl (zt_ww G σ) H → va_S (zt_A G) s.heap H locs → lv_has ls 3 [(0, .ref (zt_ad G 1)), (1, .int u1), (2, .int u2)] → W p l e (zt_R 1 21) s m ([.ref (zt_ad G 1), .int x1] : List Value).toArray below meth c H locs 0 0 (MQ below (zt_Ci G r σ) ([.ref (zt_ad G 1), .int x1] : List Value).toArray s 0 0 (zt_A G)) (F0 m 2 ls []) := by
    intro n
    induction n with
    | zero => intro u1 u2 H locs ls hf; exact nomatch hf
    | succ n hrc2 =>
      intro u1 u2 H locs ls hf hP hS hl
      generalize hrcg : f_X7_isOneAt_2 σ n = rc2 at hrc2
      have hf : f_X7_isOneAt_2b σ rc2 u1 u2 = some r := by rw [← hrcg]; exact hf
      unfold f_X7_isOneAt_2b at hf
      refine lv_iload_n hx hb dX7_isOneAt_2 rfl (lv_at hl 2 rfl) ?_
      refine lv_aload_n hx hb dX7_isOneAt_3 rfl (lv_at hl 0 rfl) ?_
      refine va_get (D := zt_D G) (ci := 6) (v := .int (σ 1 1)) (C := RX7) (T := TX7) (N := 2) hx hb hts inX7 hown hK hP 1 (zt_a6 (rfl : zt_kd 1 = 6)) rfl 1 (by decide) fl22 (fun _ h9 => h9) rfl dX7_isOneAt_4 ?_
      refine lv_icmp_ge (tgt := 30) hx hb dX7_isOneAt_7 (by decide) (fun c1 => ?_) (fun c1 => ?_)
      · have hf := (if_pos c1).symm.trans hf
        refine lv_iconst (v := 0) hx hb dX7_isOneAt_30 (by decide) ?_
        exact W.zret hx hb hr (zt_bn (by decide)).1 (fun t ht hW => ⟨⟨_, _, rfl, ⟨Option.some.inj hf, rfl⟩, zt_go hE hP hS zt_id ht hW⟩, hS.F ht⟩) hS.2.2 dX7_isOneAt_31
      · have hf := (if_neg c1).symm.trans hf
        refine lv_aload_n hx hb dX7_isOneAt_10 rfl (lv_at hl 0 rfl) ?_
        refine lv_iload_n hx hb dX7_isOneAt_11 rfl (lv_at hl 2 rfl) ?_
        obtain ⟨z4, hvv2, hf⟩ := zt_bd_some hf; obtain ⟨g5, hf⟩ := zt_gd_some hf; have hz4 := of_decide_eq_true g5
        refine va_callr (va_runV (As := [.int u2]) (rest := []) ⟨hx, hb, hml, hown, hts⟩ (m_X7_at l G (σ := σ) hvv2) (cwV 1 hts gX7_isOneAt_X7_at rfl rfl rfl zh_X7_at ⟨Nat.le_of_ble_eq_true rfl, Nat.le_of_ble_eq_true rfl⟩) ⟨zt_blind, va_recv hK hP (ci := 6) (q0 := 1) rfl (zt_a6 (rfl : zt_kd 1 = 6)), fun U hU hW => ⟨rfl, zt_go hE hP hS zt_id hU hW⟩⟩ rfl rfl hl.1 rfl (lv_room (Nat.le_of_ble_eq_true rfl)) dX7_isOneAt_12 ⟨Nat.zero_le _, Nat.zero_le _⟩) hS (fun _ _ h => h) (fun _ h => h) (fun u a t H locs ht hvm hw hB _ _ hS => ?_)
        rw [hB.1]; have hB : zt_B G u t := hB.2; rw [hw] at hB; have hP := zt_B.P hB ht
        refine va_getN (D := zt_D G) (ci := 5) (v := .int (σ z4 0)) (C := RX6) (T := TX6) (N := 11) hx hb hts inX6 hown hK hP z4 (zt_a5 hz4) rfl 0 (by decide) fl29 (fun _ h9 => h9) rfl dX7_isOneAt_15 ?_
        refine lv_iload_n hx hb dX7_isOneAt_18 rfl (lv_at hl 1 rfl) ?_
        refine lv_icmp_ne (tgt := 24) hx hb dX7_isOneAt_19 (by decide) (fun c6 => ?_) (fun c6 => ?_)
        · have hf := (if_neg c6).symm.trans hf
          refine lv_iinc (v := (u2 + 1)) (lv' := [(2, .int (u2 + 1)), (0, .ref (zt_ad G 1)), (1, .int u1)]) hx hb dX7_isOneAt_24 hl (k := 2) rfl rfl (by decide) rfl (fun ls hl => ?_)
          refine lv_goto (tgt := 2) hx hb dX7_isOneAt_27 (by decide) ?_
          exact hrc2 u1 (u2 + 1) _ _ _ hf hP hS (lv_sub hl [1, 2, 0] rfl)
        · have hf := (if_pos c6).symm.trans hf
          refine lv_iconst (v := 1) hx hb dX7_isOneAt_22 (by decide) ?_
          exact W.zret hx hb hr (zt_bn (by decide)).1 (fun t ht hW => ⟨⟨_, _, rfl, ⟨Option.some.inj hf, rfl⟩, zt_go hE hP hS zt_id ht hW⟩, hS.F ht⟩) hS.2.2 dX7_isOneAt_23
  unfold f_X7_isOneAt at hf
  refine lv_iconst (v := 0) hx hb dX7_isOneAt_0 (by decide) ?_
  refine lv_istore_n (lv' := [(2, .int 0), (0, .ref (zt_ad G 1)), (1, .int x1)]) hx hb dX7_isOneAt_1 rfl hl (by decide) rfl (fun ls hl => ?_)
  exact B2 zt_FU x1 0 _ _ _ hf hP hS (lv_sub hl [1, 2, 0] rfl)

theorem zh_X7_make : yX7_make.cls = RX7 ∧ yX7_make.cls ≠ "java/lang/invoke/MethodHandle" ∧ yX7_make.cls ≠ "java/lang/invoke/VarHandle" ∧ (parseMethodDescriptor yX7_make.desc).map (fun d => d.parameters.length) = some 2 := by decide +kernel
set_option maxHeartbeats 4000000 in
set_option maxRecDepth 100000 in
theorem m_X7_make (l : Launch) (G : zt_G) {σ : zt_St} {x1 : Int32} {x2 : Int32} {r : Int32} {σ1 : zt_St} (hf : f_X7_make σ x1 x2 = some (r, σ1)) : zt_Mi l G yX7_make wsX7_make 1 21 [.ref (zt_ad G 1), .int x1, .int x2] σ r σ1 := by
  refine Met.ofW (cc := cX7_make) (maxL := 5) (ret := (some .int)) (by decide) rfl ?_
  intro p e s m args below meth c s₁ B hml hv
  obtain ⟨rfl, hBB⟩ := hv
  have hE := zt_B.env hBB; have hK := hE.2.1; have hP := hBB.2.1
  have hx := B.exec; have hb := B.bytes; have hr := B.returns; have hts := atoms_spec (ws := wsX7_make) B.pre
  have hown : s.vm.findClass RX7 = some m.cls := findClass_of_methodNamed B.named
  have hlocks := B.notSynchronized
  have hS : va_S (zt_A G) s.heap s.heap [] := va_S.rf
  have hl := lv_entry ([.ref (zt_ad G 1), .int x1, .int x2]) (n := 5) (Nat.le_of_ble_eq_true rfl)
  rw [lg_entry_eq]
  generalize (lg_sl ([.ref (zt_ad G 1), .int x1, .int x2]) ++ List.replicate (5 - (lg_sl ([.ref (zt_ad G 1), .int x1, .int x2])).length) Slot.unset).toArray = ls at hl ⊢
  have hl : lv_has ls 5 [(0, .ref (zt_ad G 1)), (1, .int x1), (2, .int x2)] := hl
  show W p l e (zt_R 1 21) s m ([.ref (zt_ad G 1), .int x1, .int x2] : List Value).toArray below meth c s.heap [] 0 0 (MQ below (zt_Ci G r σ1) ([.ref (zt_ad G 1), .int x1, .int x2] : List Value).toArray s 0 0 (zt_A G)) (F0 m 0 ls [])
  have fl18 := zt_Nw.use (args := ([.ref (zt_ad G 1), .int x1, .int x2] : List Value).toArray) hE.2.2.1 (q := ("ZoneTree$Zones", 18, "ZoneTree$Zone", "life", "I", "ZoneTree")) (List.mem_of_getElem? (i := 4) rfl)
  have fl22 := hts (.fieldLink RX7 22 "ZoneTree$Zones" "count" "I") (List.mem_cons_of_mem _ (List.mem_append_left _ (List.mem_append_left _ (List.mem_of_getElem? (i := 0) rfl))))
  have fl29 := zt_Nw.use (args := ([.ref (zt_ad G 1), .int x1, .int x2] : List Value).toArray) hE.2.2.1 (q := ("ZoneTree$Zones", 29, "ZoneTree$Zone", "apex", "I", "ZoneTree")) (List.mem_of_getElem? (i := 1) rfl)
  have inX6 : ∀ w ∈ wsX60, w ∈ wsX7_make := fun w h => (List.mem_cons_of_mem _ (List.mem_append_right _ h))
  have inX7 : ∀ w ∈ wsX70, w ∈ wsX7_make := fun w h => (List.mem_cons_of_mem _ (List.mem_append_left _ (List.mem_append_right _ h)))
  unfold f_X7_make at hf
  refine lv_aload_n hx hb dX7_make_0 rfl (lv_at hl 0 rfl) ?_
  refine va_get (D := zt_D G) (ci := 6) (v := .int (σ 1 1)) (C := RX7) (T := TX7) (N := 2) hx hb hts inX7 hown hK hP 1 (zt_a6 (rfl : zt_kd 1 = 6)) rfl 1 (by decide) fl22 (fun _ h9 => h9) rfl dX7_make_1 ?_
  refine lv_istore_n (lv' := [(3, .int (σ 1 1)), (0, .ref (zt_ad G 1)), (1, .int x1), (2, .int x2)]) hx hb dX7_make_4 rfl hl (by decide) rfl (fun ls hl => ?_)
  refine lv_aload_n hx hb dX7_make_5 rfl (lv_at hl 1 rfl) ?_
  refine lv_dup hx hb dX7_make_6 rfl ?_
  refine va_get (D := zt_D G) (ci := 6) (v := .int (σ 1 1)) (C := RX7) (T := TX7) (N := 2) hx hb hts inX7 hown hK hP 1 (zt_a6 (rfl : zt_kd 1 = 6)) rfl 1 (by decide) fl22 (fun _ h9 => h9) rfl dX7_make_7 ?_
  refine lv_iconst (v := 1) hx hb dX7_make_10 (by decide) ?_
  refine lv_iadd hx hb dX7_make_11 ?_
  obtain ⟨σ1, hσ1, hf⟩ := zt_lt_some hf
  refine va_put (D := zt_D G) (ci := 6) (v := .int ((σ 1 1) + 1)) (ty := .int) (C := RX7) (T := TX7) (N := 2) hx hb hts inX7 tyX7 tyX7_ok nmX7 hown hK hP (zt_apart hE.1) hS 1 (zt_a6 (rfl : zt_kd 1 = 6)) rfl 1 (by decide) fl22 (fun _ h9 => h9) rfl (tyX7_ok 1 (by decide)) rfl rfl (Nat.le_of_ble_eq_true rfl) dX7_make_12 (fun H locs hP _ hS => ?_)
  rw [zt_p6_1 (rfl : zt_kd 1 = 6), ← hσ1] at hP
  refine lv_aload_n hx hb dX7_make_15 rfl (lv_at hl 1 rfl) ?_
  refine lv_iload_n hx hb dX7_make_16 rfl (lv_at hl 0 rfl) ?_
  obtain ⟨z4, hvv2, hf⟩ := zt_bd_some hf; obtain ⟨g5, hf⟩ := zt_gd_some hf; have hz4 := of_decide_eq_true g5
  refine va_callr (va_runV (As := [.int (σ 1 1)]) (rest := []) ⟨hx, hb, hml, hown, hts⟩ (m_X7_at l G (σ := σ1) hvv2) (cwV 1 hts gX7_make_X7_at rfl rfl rfl zh_X7_at ⟨Nat.le_of_ble_eq_true rfl, Nat.le_of_ble_eq_true rfl⟩) ⟨zt_blind, va_recv hK hP (ci := 6) (q0 := 1) rfl (zt_a6 (rfl : zt_kd 1 = 6)), fun U hU hW => ⟨rfl, zt_go hE hP hS zt_id hU hW⟩⟩ rfl rfl hl.1 rfl (lv_room (Nat.le_of_ble_eq_true rfl)) dX7_make_17 ⟨Nat.zero_le _, Nat.zero_le _⟩) hS (fun _ _ h => h) (fun _ h => h) (fun u a t H locs ht hvm hw hB _ _ hS => ?_)
  rw [hB.1]; have hB : zt_B G u t := hB.2; rw [hw] at hB; have hP := zt_B.P hB ht
  refine lv_astore (lv' := [(4, .ref (zt_ad G z4)), (3, .int (σ 1 1)), (0, .ref (zt_ad G 1)), (1, .int x1), (2, .int x2)]) hx hb dX7_make_20 hl (by decide) rfl (fun ls hl => ?_)
  refine lv_aload hx hb dX7_make_22 (lv_at hl 0 rfl) ?_
  refine lv_iload_n hx hb dX7_make_24 rfl (lv_at hl 3 rfl) ?_
  obtain ⟨σ6, hσ6, hf⟩ := zt_lt_some hf
  refine va_putN (D := zt_D G) (ci := 5) (v := .int x1) (ty := .int) (C := RX6) (T := TX6) (N := 11) hx hb hts inX6 tyX6 tyX6_ok nmX6 hown hK hP (zt_apart hE.1) hS z4 (zt_a5 hz4) rfl 0 (by decide) fl29 (fun _ h9 => h9) rfl (tyX6_ok 0 (by decide)) rfl rfl (Nat.le_of_ble_eq_true rfl) dX7_make_25 (fun H locs hP _ hS => ?_)
  rw [zt_p5_0 hz4, ← hσ6] at hP
  refine lv_aload hx hb dX7_make_28 (lv_at hl 0 rfl) ?_
  refine lv_iload_n hx hb dX7_make_30 rfl (lv_at hl 4 rfl) ?_
  obtain ⟨σ7, hσ7, hf⟩ := zt_lt_some hf
  refine va_putN (D := zt_D G) (ci := 5) (v := .int x2) (ty := .int) (C := RX6) (T := TX6) (N := 11) hx hb hts inX6 tyX6 tyX6_ok nmX6 hown hK hP (zt_apart hE.1) hS z4 (zt_a5 hz4) rfl 1 (by decide) fl18 (fun _ h9 => h9) rfl (tyX6_ok 1 (by decide)) rfl rfl (Nat.le_of_ble_eq_true rfl) dX7_make_31 (fun H locs hP _ hS => ?_)
  rw [zt_p5_1 hz4, ← hσ7] at hP
  refine lv_iload_n hx hb dX7_make_34 rfl (lv_at hl 1 rfl) ?_
  exact W.iret hx hb hr (fun t ht hW => ⟨⟨_, _, rfl, (Prod.mk.inj (Option.some.inj hf)), zt_go hE hP hS zt_id ht hW⟩, hS.F ht⟩) hS.2.2 dX7_make_35

