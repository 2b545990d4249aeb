/-! contracts over the machine, by program: each method does what its function says -/
theorem zh_X2_isRow : yX2_isRow.cls = RX2 ∧ yX2_isRow.cls ≠ "java/lang/invoke/MethodHandle" ∧ yX2_isRow.cls ≠ "java/lang/invoke/VarHandle" ∧ (parseMethodDescriptor yX2_isRow.desc).map (fun d => d.parameters.length) = some 1 := by decide +kernel
set_option maxHeartbeats 4000000 in
set_option maxRecDepth 100000 in
theorem m_X2_isRow (l : Launch) (G : zt_G) {σ : zt_St} {x1 : Int32} {r : Int32} (hf : f_X2_isRow σ x1 = some r) : zt_Mi l G yX2_isRow wsX2_isRow 0 0 [.ref (zt_ad G 81), .int x1] σ r σ := by
  refine Met.ofW (cc := cX2_isRow) (maxL := 2) (ret := (some .boolean)) (by decide) rfl ?_
  intro p e s m args below meth c s₁ B hml hv
  obtain ⟨rfl, hBB⟩ := hv
  have hE := zt_B.env hBB; have hK := hE.2.1; have hP := hBB.2.1
  have hx := B.exec; have hb := B.bytes; have hr := B.returns; have hts := atoms_spec (ws := wsX2_isRow) B.pre
  have hown : s.vm.findClass RX2 = some m.cls := findClass_of_methodNamed B.named
  have hlocks := B.notSynchronized
  have hS : va_S (zt_A G) s.heap s.heap [] := va_S.rf
  have hl := lv_entry ([.ref (zt_ad G 81), .int x1]) (n := 2) (Nat.le_of_ble_eq_true rfl)
  rw [lg_entry_eq]
  generalize (lg_sl ([.ref (zt_ad G 81), .int x1]) ++ List.replicate (2 - (lg_sl ([.ref (zt_ad G 81), .int x1])).length) Slot.unset).toArray = ls at hl ⊢
  have hl : lv_has ls 2 [(0, .ref (zt_ad G 81)), (1, .int x1)] := hl
  show W p l e (zt_R 0 0) s m ([.ref (zt_ad G 81), .int x1] : List Value).toArray below meth c s.heap [] 0 0 (MQ below (zt_Ci G r σ) ([.ref (zt_ad G 81), .int x1] : List Value).toArray s 0 0 (zt_A G)) (F0 m 0 ls [])
  have fl9 := hts (.fieldLink RX2 9 "ZoneTree$Kept" "names" "[I") (List.mem_cons_of_mem _ (List.mem_append_left _ (List.mem_of_getElem? (i := 1) rfl)))
  have fl39 := hts (.fieldLink RX2 39 "ZoneTree$Kept" "count" "I") (List.mem_cons_of_mem _ (List.mem_append_left _ (List.mem_of_getElem? (i := 0) rfl)))
  have inX2 : ∀ w ∈ wsX20, w ∈ wsX2_isRow := fun w h => (List.mem_cons_of_mem _ (List.mem_append_right _ h))
  unfold f_X2_isRow at hf
  refine lv_iload_n hx hb dX2_isRow_0 rfl (lv_at hl 1 rfl) ?_
  refine lv_if_lt (tgt := 25) hx hb dX2_isRow_1 (by decide) (fun c1 => ?_) (fun c1 => ?_)
  · have hf := (if_pos c1).symm.trans hf
    refine lv_iconst (v := 0) hx hb dX2_isRow_25 (by decide) ?_
    exact W.zret hx hb hr (zt_bn (by decide)).1 (fun t ht hW => ⟨⟨_, _, rfl, ⟨Option.some.inj hf, rfl⟩, zt_go hE hP hS zt_id ht hW⟩, hS.F ht⟩) hS.2.2 dX2_isRow_26
  · have hf := (if_neg c1).symm.trans hf
    refine lv_iload_n hx hb dX2_isRow_4 rfl (lv_at hl 1 rfl) ?_
    refine lv_aload_n hx hb dX2_isRow_5 rfl (lv_at hl 0 rfl) ?_
    refine va_get (D := zt_D G) (ci := 2) (v := .int (σ 81 8)) (C := RX2) (T := TX2) (N := 11) hx hb hts inX2 hown hK hP 81 (zt_a2 (rfl : zt_kd 81 = 2)) rfl 8 (by decide) fl39 (fun _ h9 => h9) rfl dX2_isRow_6 ?_
    refine lv_icmp_ge (tgt := 25) hx hb dX2_isRow_9 (by decide) (fun c2 => ?_) (fun c2 => ?_)
    · have hf := (if_pos c2).symm.trans hf
      refine lv_iconst (v := 0) hx hb dX2_isRow_25 (by decide) ?_
      exact W.zret hx hb hr (zt_bn (by decide)).1 (fun t ht hW => ⟨⟨_, _, rfl, ⟨Option.some.inj hf, rfl⟩, zt_go hE hP hS zt_id ht hW⟩, hS.F ht⟩) hS.2.2 dX2_isRow_26
    · have hf := (if_neg c2).symm.trans hf
      refine lv_iload_n hx hb dX2_isRow_12 rfl (lv_at hl 1 rfl) ?_
      refine lv_aload_n hx hb dX2_isRow_13 rfl (lv_at hl 0 rfl) ?_
      refine va_get (D := zt_D G) (ci := 2) (v := .ref (zt_ad G 82)) (C := RX2) (T := TX2) (N := 11) hx hb hts inX2 hown hK hP 81 (zt_a2 (rfl : zt_kd 81 = 2)) rfl 0 (by decide) fl9 (fun _ h9 => h9) rfl dX2_isRow_14 ?_
      refine va_alen hx hb hK hP 82 0 zt_a_82 rfl (v := 40) (show Int32.ofNat 40 = 40 by decide +kernel) dX2_isRow_17 ?_
      refine lv_icmp_ge (tgt := 25) hx hb dX2_isRow_18 (by decide) (fun c3 => ?_) (fun c3 => ?_)
      · have hf := (if_pos c3).symm.trans hf
        refine lv_iconst (v := 0) hx hb dX2_isRow_25 (by decide) ?_
        exact W.zret hx hb hr (zt_bn (by decide)).1 (fun t ht hW => ⟨⟨_, _, rfl, ⟨Option.some.inj hf, rfl⟩, zt_go hE hP hS zt_id ht hW⟩, hS.F ht⟩) hS.2.2 dX2_isRow_26
      · have hf := (if_neg c3).symm.trans hf
        refine lv_iconst (v := 1) hx hb dX2_isRow_21 (by decide) ?_
        refine lv_goto (tgt := 26) hx hb dX2_isRow_22 (by decide) ?_
        exact W.zret hx hb hr (zt_bn (by decide)).1 (fun t ht hW => ⟨⟨_, _, rfl, ⟨Option.some.inj hf, rfl⟩, zt_go hE hP hS zt_id ht hW⟩, hS.F ht⟩) hS.2.2 dX2_isRow_26

theorem zh_X2_rowOf : yX2_rowOf.cls = RX2 ∧ yX2_rowOf.cls ≠ "java/lang/invoke/MethodHandle" ∧ yX2_rowOf.cls ≠ "java/lang/invoke/VarHandle" ∧ (parseMethodDescriptor yX2_rowOf.desc).map (fun d => d.parameters.length) = some 2 := by decide +kernel
set_option maxHeartbeats 4000000 in
set_option maxRecDepth 100000 in
theorem m_X2_rowOf (l : Launch) (G : zt_G) {σ : zt_St} {x1 : Int32} {x2 : Int32} {r : Int32} (hf : f_X2_rowOf σ x1 x2 = some r) : zt_Mi l G yX2_rowOf wsX2_rowOf 0 0 [.ref (zt_ad G 81), .int x1, .int x2] σ r σ := by
  refine Met.ofW (cc := cX2_rowOf) (maxL := 4) (ret := (some .int)) (by decide) rfl ?_
  intro p e s m args below meth c s₁ B hml hv
  obtain ⟨rfl, hBB⟩ := hv
  have hE := zt_B.env hBB; have hK := hE.2.1; have hP := hBB.2.1
  have hx := B.exec; have hb := B.bytes; have hr := B.returns; have hts := atoms_spec (ws := wsX2_rowOf) B.pre
  have hown : s.vm.findClass RX2 = some m.cls := findClass_of_methodNamed B.named
  have hlocks := B.notSynchronized
  have hS : va_S (zt_A G) s.heap s.heap [] := va_S.rf
  have hl := lv_entry ([.ref (zt_ad G 81), .int x1, .int x2]) (n := 4) (Nat.le_of_ble_eq_true rfl)
  rw [lg_entry_eq]
  generalize (lg_sl ([.ref (zt_ad G 81), .int x1, .int x2]) ++ List.replicate (4 - (lg_sl ([.ref (zt_ad G 81), .int x1, .int x2])).length) Slot.unset).toArray = ls at hl ⊢
  have hl : lv_has ls 4 [(0, .ref (zt_ad G 81)), (1, .int x1), (2, .int x2)] := hl
  show W p l e (zt_R 0 0) s m ([.ref (zt_ad G 81), .int x1, .int x2] : List Value).toArray below meth c s.heap [] 0 0 (MQ below (zt_Ci G r σ) ([.ref (zt_ad G 81), .int x1, .int x2] : List Value).toArray s 0 0 (zt_A G)) (F0 m 0 ls [])
  have fl9 := hts (.fieldLink RX2 9 "ZoneTree$Kept" "names" "[I") (List.mem_cons_of_mem _ (List.mem_append_left _ (List.mem_of_getElem? (i := 1) rfl)))
  have fl15 := hts (.fieldLink RX2 15 "ZoneTree$Kept" "sorts" "[I") (List.mem_cons_of_mem _ (List.mem_append_left _ (List.mem_of_getElem? (i := 2) rfl)))
  have fl39 := hts (.fieldLink RX2 39 "ZoneTree$Kept" "count" "I") (List.mem_cons_of_mem _ (List.mem_append_left _ (List.mem_of_getElem? (i := 0) rfl)))
  have inX2 : ∀ w ∈ wsX20, w ∈ wsX2_rowOf := fun w h => (List.mem_cons_of_mem _ (List.mem_append_right _ h))
  have B41 : ∀ (rc2 : Int32 → Int32 → Int32 → Option (Int32)) (hrc2 : ∀ (u1 : Int32) (u2 : Int32) (u3 : Int32) (H : Heap) (locs : List Loc) (ls : Array Slot), rc2 u1 u2 u3 = some r → va_P (zt_D G) vwCl (zt_ww G σ) H → va_S (zt_A G) s.heap H locs → lv_has ls 4 [(0, .ref (zt_ad G 81)), (1, .int u1), (2, .int u2), (3, .int u3)] → W p l e (zt_R 0 0) s m ([.ref (zt_ad G 81), .int x1, .int x2] : List Value).toArray below meth c H locs 0 0 (MQ below (zt_Ci G r σ) ([.ref (zt_ad G 81), .int x1, .int x2] : List Value).toArray s 0 0 (zt_A G)) (F0 m 2 ls [])), ∀ (u1 : Int32) (u2 : Int32) (u3 : Int32) (H : Heap) (locs : List Loc) (ls : Array Slot), f_X2_rowOf_41 σ rc2 u1 u2 u3 = some r → va_P (zt_D G) vwCl (zt_ww G σ) H → va_S (zt_A G) s.heap H locs → lv_has ls 4 [(0, .ref (zt_ad G 81)), (1, .int u1), (2, .int u2), (3, .int u3)] → W p l e (zt_R 0 0) s m ([.ref (zt_ad G 81), .int x1, .int x2] : List Value).toArray below meth c H locs 0 0 (MQ below (zt_Ci G r σ) ([.ref (zt_ad G 81), .int x1, .int x2] : List Value).toArray s 0 0 (zt_A G)) (F0 m 41 ls []) := by
    intro rc2 hrc2 u1 u2 u3 H locs ls hf hP hS hl
    unfold f_X2_rowOf_41 at hf
    refine lv_iinc (v := (u3 + 1)) (lv' := [(3, .int (u3 + 1)), (0, .ref (zt_ad G 81)), (1, .int u1), (2, .int u2)]) hx hb dX2_rowOf_41 hl (k := 3) rfl rfl (by decide) rfl (fun ls hl => ?_)
    refine lv_goto (tgt := 2) hx hb dX2_rowOf_44 (by decide) ?_
    exact hrc2 u1 u2 (u3 + 1) _ _ _ hf hP hS (lv_sub hl [1, 2, 3, 0] rfl)
  have B2 : ∀ (n : Nat), ∀ (u1 : Int32) (u2 : Int32) (u3 : Int32) (H : Heap) (locs : List Loc) (ls : Array Slot), f_X2_rowOf_2 σ n u1 u2 u3 = some r → va_P (zt_D G) vwCl (zt_ww G σ) H → va_S (zt_A G) s.heap H locs → lv_has ls 4 [(0, .ref (zt_ad G 81)), (1, .int u1), (2, .int u2), (3, .int u3)] → W p l e (zt_R 0 0) s m ([.ref (zt_ad G 81), .int x1, .int x2] : List Value).toArray below meth c H locs 0 0 (MQ below (zt_Ci G r σ) ([.ref (zt_ad G 81), .int x1, .int x2] : List Value).toArray s 0 0 (zt_A G)) (F0 m 2 ls []) := by
    intro n
    induction n with
    | zero => intro u1 u2 u3 H locs ls hf; exact nomatch hf
    | succ n hrc2 =>
      intro u1 u2 u3 H locs ls hf hP hS hl
      generalize hrcg : f_X2_rowOf_2 σ n = rc2 at hrc2
      have hf : f_X2_rowOf_2b σ rc2 u1 u2 u3 = some r := by rw [← hrcg]; exact hf
      unfold f_X2_rowOf_2b at hf
      refine lv_iload_n hx hb dX2_rowOf_2 rfl (lv_at hl 3 rfl) ?_
      refine lv_aload_n hx hb dX2_rowOf_3 rfl (lv_at hl 0 rfl) ?_
      refine va_get (D := zt_D G) (ci := 2) (v := .int (σ 81 8)) (C := RX2) (T := TX2) (N := 11) hx hb hts inX2 hown hK hP 81 (zt_a2 (rfl : zt_kd 81 = 2)) rfl 8 (by decide) fl39 (fun _ h9 => h9) rfl dX2_rowOf_4 ?_
      refine lv_icmp_ge (tgt := 47) hx hb dX2_rowOf_7 (by decide) (fun c1 => ?_) (fun c1 => ?_)
      · have hf := (if_pos c1).symm.trans hf
        refine lv_iconst (v := (-1)) hx hb dX2_rowOf_47 (by decide) ?_
        exact W.iret hx hb hr (fun t ht hW => ⟨⟨_, _, rfl, ⟨Option.some.inj hf, rfl⟩, zt_go hE hP hS zt_id ht hW⟩, hS.F ht⟩) hS.2.2 dX2_rowOf_48
      · have hf := (if_neg c1).symm.trans hf
        refine lv_iload_n hx hb dX2_rowOf_10 rfl (lv_at hl 3 rfl) ?_
        refine lv_aload_n hx hb dX2_rowOf_11 rfl (lv_at hl 0 rfl) ?_
        refine va_get (D := zt_D G) (ci := 2) (v := .ref (zt_ad G 82)) (C := RX2) (T := TX2) (N := 11) hx hb hts inX2 hown hK hP 81 (zt_a2 (rfl : zt_kd 81 = 2)) rfl 0 (by decide) fl9 (fun _ h9 => h9) rfl dX2_rowOf_12 ?_
        refine va_alen hx hb hK hP 82 0 zt_a_82 rfl (v := 40) (show Int32.ofNat 40 = 40 by decide +kernel) dX2_rowOf_15 ?_
        refine lv_icmp_ge (tgt := 47) hx hb dX2_rowOf_16 (by decide) (fun c2 => ?_) (fun c2 => ?_)
        · have hf := (if_pos c2).symm.trans hf
          refine lv_iconst (v := (-1)) hx hb dX2_rowOf_47 (by decide) ?_
          exact W.iret hx hb hr (fun t ht hW => ⟨⟨_, _, rfl, ⟨Option.some.inj hf, rfl⟩, zt_go hE hP hS zt_id ht hW⟩, hS.F ht⟩) hS.2.2 dX2_rowOf_48
        · have hf := (if_neg c2).symm.trans hf
          refine lv_aload_n hx hb dX2_rowOf_19 rfl (lv_at hl 0 rfl) ?_
          refine va_get (D := zt_D G) (ci := 2) (v := .ref (zt_ad G 82)) (C := RX2) (T := TX2) (N := 11) hx hb hts inX2 hown hK hP 81 (zt_a2 (rfl : zt_kd 81 = 2)) rfl 0 (by decide) fl9 (fun _ h9 => h9) rfl dX2_rowOf_20 ?_
          refine lv_iload_n hx hb dX2_rowOf_23 rfl (lv_at hl 3 rfl) ?_
          obtain ⟨g3, hf⟩ := zt_gd_some hf
          refine va_iald hx hb hK hP 82 0 zt_a_82 rfl (zt_gI_in g3) dX2_rowOf_24 ?_
          refine lv_iload_n hx hb dX2_rowOf_25 rfl (lv_at hl 1 rfl) ?_
          refine lv_icmp_ne (tgt := 41) hx hb dX2_rowOf_26 (by decide) (fun c4 => ?_) (fun c4 => ?_)
          · have hf := (if_neg c4).symm.trans hf
            exact B41 rc2 hrc2 u1 u2 u3 _ _ _ hf hP hS (lv_sub hl [0, 1, 2, 3] rfl)
          · have hf := (if_pos c4).symm.trans hf
            refine lv_aload_n hx hb dX2_rowOf_29 rfl (lv_at hl 0 rfl) ?_
            refine va_get (D := zt_D G) (ci := 2) (v := .ref (zt_ad G 83)) (C := RX2) (T := TX2) (N := 11) hx hb hts inX2 hown hK hP 81 (zt_a2 (rfl : zt_kd 81 = 2)) rfl 1 (by decide) fl15 (fun _ h9 => h9) rfl dX2_rowOf_30 ?_
            refine lv_iload_n hx hb dX2_rowOf_33 rfl (lv_at hl 3 rfl) ?_
            obtain ⟨g5, hf⟩ := zt_gd_some hf
            refine va_iald hx hb hK hP 83 0 zt_a_83 rfl (zt_gI_in g5) dX2_rowOf_34 ?_
            refine lv_iload_n hx hb dX2_rowOf_35 rfl (lv_at hl 2 rfl) ?_
            refine lv_icmp_ne (tgt := 41) hx hb dX2_rowOf_36 (by decide) (fun c6 => ?_) (fun c6 => ?_)
            · have hf := (if_neg c6).symm.trans hf
              exact B41 rc2 hrc2 u1 u2 u3 _ _ _ hf hP hS (lv_sub hl [0, 1, 2, 3] rfl)
            · have hf := (if_pos c6).symm.trans hf
              refine lv_iload_n hx hb dX2_rowOf_39 rfl (lv_at hl 3 rfl) ?_
              exact W.iret hx hb hr (fun t ht hW => ⟨⟨_, _, rfl, ⟨Option.some.inj hf, rfl⟩, zt_go hE hP hS zt_id ht hW⟩, hS.F ht⟩) hS.2.2 dX2_rowOf_40
  unfold f_X2_rowOf at hf
  refine lv_iconst (v := 0) hx hb dX2_rowOf_0 (by decide) ?_
  refine lv_istore_n (lv' := [(3, .int 0), (0, .ref (zt_ad G 81)), (1, .int x1), (2, .int x2)]) hx hb dX2_rowOf_1 rfl hl (by decide) rfl (fun ls hl => ?_)
  exact B2 zt_FU x1 x2 0 _ _ _ hf hP hS (lv_sub hl [1, 2, 3, 0] rfl)

theorem zh_X2_isHolding : yX2_isHolding.cls = RX2 ∧ yX2_isHolding.cls ≠ "java/lang/invoke/MethodHandle" ∧ yX2_isHolding.cls ≠ "java/lang/invoke/VarHandle" ∧ (parseMethodDescriptor yX2_isHolding.desc).map (fun d => d.parameters.length) = some 2 := by decide +kernel
set_option maxHeartbeats 4000000 in
set_option maxRecDepth 100000 in
theorem m_X2_isHolding (l : Launch) (G : zt_G) {σ : zt_St} {x1 : Int32} {x2 : Int32} {r : Int32} (hf : f_X2_isHolding σ x1 x2 = some r) : zt_Mi l G yX2_isHolding wsX2_isHolding 1 21 [.ref (zt_ad G 81), .int x1, .int x2] σ r σ := by
  refine Met.ofW (cc := cX2_isHolding) (maxL := 3) (ret := (some .boolean)) (by decide) rfl ?_
  intro p e s m args below meth c s₁ B hml hv
  obtain ⟨rfl, hBB⟩ := hv
  have hE := zt_B.env hBB; have hK := hE.2.1; have hP := hBB.2.1
  have hx := B.exec; have hb := B.bytes; have hr := B.returns; have hts := atoms_spec (ws := wsX2_isHolding) B.pre
  have hown : s.vm.findClass RX2 = some m.cls := findClass_of_methodNamed B.named
  have hlocks := B.notSynchronized
  have hS : va_S (zt_A G) s.heap s.heap [] := va_S.rf
  have hl := lv_entry ([.ref (zt_ad G 81), .int x1, .int x2]) (n := 3) (Nat.le_of_ble_eq_true rfl)
  rw [lg_entry_eq]
  generalize (lg_sl ([.ref (zt_ad G 81), .int x1, .int x2]) ++ List.replicate (3 - (lg_sl ([.ref (zt_ad G 81), .int x1, .int x2])).length) Slot.unset).toArray = ls at hl ⊢
  have hl : lv_has ls 3 [(0, .ref (zt_ad G 81)), (1, .int x1), (2, .int x2)] := hl
  show W p l e (zt_R 1 21) s m ([.ref (zt_ad G 81), .int x1, .int x2] : List Value).toArray below meth c s.heap [] 0 0 (MQ below (zt_Ci G r σ) ([.ref (zt_ad G 81), .int x1, .int x2] : List Value).toArray s 0 0 (zt_A G)) (F0 m 0 ls [])
  have fl27 := hts (.fieldLink RX2 27 "ZoneTree$Kept" "lives" "[I") (List.mem_cons_of_mem _ (List.mem_append_left _ (List.mem_of_getElem? (i := 1) rfl)))
  have fl30 := hts (.fieldLink RX2 30 "ZoneTree$Kept" "times" "[I") (List.mem_cons_of_mem _ (List.mem_append_left _ (List.mem_of_getElem? (i := 0) rfl)))
  have inX2 : ∀ w ∈ wsX20, w ∈ wsX2_isHolding := fun w h => (List.mem_cons_of_mem _ (List.mem_append_right _ h))
  unfold f_X2_isHolding at hf
  refine lv_aload_n hx hb dX2_isHolding_0 rfl (lv_at hl 0 rfl) ?_
  refine lv_iload_n hx hb dX2_isHolding_1 rfl (lv_at hl 1 rfl) ?_
  obtain ⟨v1, hvv1, hf⟩ := zt_bd_some hf
  refine va_calli (va_runV (As := [.int x1]) (rest := []) ⟨hx, hb, hml, hown, hts⟩ (m_X2_isRow l G (σ := σ) hvv1) (cwV 1 hts gX2_isHolding_X2_isRow rfl rfl rfl zh_X2_isRow ⟨Nat.le_of_ble_eq_true rfl, Nat.le_of_ble_eq_true rfl⟩) ⟨zt_blind, va_recv hK hP (ci := 2) (q0 := 81) rfl (zt_a2 (rfl : zt_kd 81 = 2)), fun U hU hW => ⟨rfl, zt_go hE hP hS zt_id hU hW⟩⟩ rfl rfl hl.1 rfl (lv_room (Nat.le_of_ble_eq_true rfl)) dX2_isHolding_2 ⟨Nat.zero_le _, Nat.zero_le _⟩) hS (fun _ _ h => h) (fun _ h => h) (fun r u t H locs ht hvm hw hB _ _ hS => ?_)
  rw [hw.1]; have hB : zt_B G u t := hB; rw [hw.2] at hB; have hP := zt_B.P hB ht
  refine lv_if_eq (tgt := 29) hx hb dX2_isHolding_5 (by decide) (fun c3 => ?_) (fun c3 => ?_)
  · have hf := (if_pos c3).symm.trans hf
    refine lv_iconst (v := 0) hx hb dX2_isHolding_29 (by decide) ?_
    exact W.zret hx hb hr (zt_bn (by decide)).1 (fun t ht hW => ⟨⟨_, _, rfl, ⟨Option.some.inj hf, rfl⟩, zt_go hE hP hS zt_id ht hW⟩, hS.F ht⟩) hS.2.2 dX2_isHolding_30
  · have hf := (if_neg c3).symm.trans hf
    refine lv_iload_n hx hb dX2_isHolding_8 rfl (lv_at hl 2 rfl) ?_
    refine lv_aload_n hx hb dX2_isHolding_9 rfl (lv_at hl 0 rfl) ?_
    refine va_get (D := zt_D G) (ci := 2) (v := .ref (zt_ad G 88)) (C := RX2) (T := TX2) (N := 11) hx hb hts inX2 hown hK hP 81 (zt_a2 (rfl : zt_kd 81 = 2)) rfl 6 (by decide) fl30 (fun _ h9 => h9) rfl dX2_isHolding_10 ?_
    refine lv_iload_n hx hb dX2_isHolding_13 rfl (lv_at hl 1 rfl) ?_
    obtain ⟨g4, hf⟩ := zt_gd_some hf
    refine va_iald hx hb hK hP 88 0 zt_a_88 rfl (zt_gI_in g4) dX2_isHolding_14 ?_
    refine lv_aload_n hx hb dX2_isHolding_15 rfl (lv_at hl 0 rfl) ?_
    refine va_get (D := zt_D G) (ci := 2) (v := .ref (zt_ad G 87)) (C := RX2) (T := TX2) (N := 11) hx hb hts inX2 hown hK hP 81 (zt_a2 (rfl : zt_kd 81 = 2)) rfl 5 (by decide) fl27 (fun _ h9 => h9) rfl dX2_isHolding_16 ?_
    refine lv_iload_n hx hb dX2_isHolding_19 rfl (lv_at hl 1 rfl) ?_
    obtain ⟨g5, hf⟩ := zt_gd_some hf
    refine va_iald hx hb hK hP 87 0 zt_a_87 rfl (zt_gI_in g5) dX2_isHolding_20 ?_
    refine lv_iadd hx hb dX2_isHolding_21 ?_
    refine lv_icmp_ge (tgt := 29) hx hb dX2_isHolding_22 (by decide) (fun c6 => ?_) (fun c6 => ?_)
    · have hf := (if_pos c6).symm.trans hf
      refine lv_iconst (v := 0) hx hb dX2_isHolding_29 (by decide) ?_
      exact W.zret hx hb hr (zt_bn (by decide)).1 (fun t ht hW => ⟨⟨_, _, rfl, ⟨Option.some.inj hf, rfl⟩, zt_go hE hP hS zt_id ht hW⟩, hS.F ht⟩) hS.2.2 dX2_isHolding_30
    · have hf := (if_neg c6).symm.trans hf
      refine lv_iconst (v := 1) hx hb dX2_isHolding_25 (by decide) ?_
      refine lv_goto (tgt := 30) hx hb dX2_isHolding_26 (by decide) ?_
      exact W.zret hx hb hr (zt_bn (by decide)).1 (fun t ht hW => ⟨⟨_, _, rfl, ⟨Option.some.inj hf, rfl⟩, zt_go hE hP hS zt_id ht hW⟩, hS.F ht⟩) hS.2.2 dX2_isHolding_30

theorem zh_X2_isUsableAsOld : yX2_isUsableAsOld.cls = RX2 ∧ yX2_isUsableAsOld.cls ≠ "java/lang/invoke/MethodHandle" ∧ yX2_isUsableAsOld.cls ≠ "java/lang/invoke/VarHandle" ∧ (parseMethodDescriptor yX2_isUsableAsOld.desc).map (fun d => d.parameters.length) = some 2 := by decide +kernel
set_option maxHeartbeats 4000000 in
set_option maxRecDepth 100000 in
theorem m_X2_isUsableAsOld (l : Launch) (G : zt_G) {σ : zt_St} {x1 : Int32} {x2 : Int32} {r : Int32} (hf : f_X2_isUsableAsOld σ x1 x2 = some r) : zt_Mi l G yX2_isUsableAsOld wsX2_isUsableAsOld 1 21 [.ref (zt_ad G 81), .int x1, .int x2] σ r σ := by
  refine Met.ofW (cc := cX2_isUsableAsOld) (maxL := 3) (ret := (some .boolean)) (by decide) rfl ?_
  intro p e s m args below meth c s₁ B hml hv
  obtain ⟨rfl, hBB⟩ := hv
  have hE := zt_B.env hBB; have hK := hE.2.1; have hP := hBB.2.1
  have hx := B.exec; have hb := B.bytes; have hr := B.returns; have hts := atoms_spec (ws := wsX2_isUsableAsOld) B.pre
  have hown : s.vm.findClass RX2 = some m.cls := findClass_of_methodNamed B.named
  have hlocks := B.notSynchronized
  have hS : va_S (zt_A G) s.heap s.heap [] := va_S.rf
  have hl := lv_entry ([.ref (zt_ad G 81), .int x1, .int x2]) (n := 3) (Nat.le_of_ble_eq_true rfl)
  rw [lg_entry_eq]
  generalize (lg_sl ([.ref (zt_ad G 81), .int x1, .int x2]) ++ List.replicate (3 - (lg_sl ([.ref (zt_ad G 81), .int x1, .int x2])).length) Slot.unset).toArray = ls at hl ⊢
  have hl : lv_has ls 3 [(0, .ref (zt_ad G 81)), (1, .int x1), (2, .int x2)] := hl
  show W p l e (zt_R 1 21) s m ([.ref (zt_ad G 81), .int x1, .int x2] : List Value).toArray below meth c s.heap [] 0 0 (MQ below (zt_Ci G r σ) ([.ref (zt_ad G 81), .int x1, .int x2] : List Value).toArray s 0 0 (zt_A G)) (F0 m 0 ls [])
  have fl30 := hts (.fieldLink RX2 30 "ZoneTree$Kept" "times" "[I") (List.mem_cons_of_mem _ (List.mem_append_left _ (List.mem_of_getElem? (i := 0) rfl)))
  have inX2 : ∀ w ∈ wsX20, w ∈ wsX2_isUsableAsOld := fun w h => (List.mem_cons_of_mem _ (List.mem_append_right _ h))
  unfold f_X2_isUsableAsOld at hf
  refine lv_aload_n hx hb dX2_isUsableAsOld_0 rfl (lv_at hl 0 rfl) ?_
  refine lv_iload_n hx hb dX2_isUsableAsOld_1 rfl (lv_at hl 1 rfl) ?_
  obtain ⟨v1, hvv1, hf⟩ := zt_bd_some hf
  refine va_calli (va_runV (As := [.int x1]) (rest := []) ⟨hx, hb, hml, hown, hts⟩ (m_X2_isRow l G (σ := σ) hvv1) (cwV 1 hts gX2_isUsableAsOld_X2_isRow rfl rfl rfl zh_X2_isRow ⟨Nat.le_of_ble_eq_true rfl, Nat.le_of_ble_eq_true rfl⟩) ⟨zt_blind, va_recv hK hP (ci := 2) (q0 := 81) rfl (zt_a2 (rfl : zt_kd 81 = 2)), fun U hU hW => ⟨rfl, zt_go hE hP hS zt_id hU hW⟩⟩ rfl rfl hl.1 rfl (lv_room (Nat.le_of_ble_eq_true rfl)) dX2_isUsableAsOld_2 ⟨Nat.zero_le _, Nat.zero_le _⟩) hS (fun _ _ h => h) (fun _ h => h) (fun r u t H locs ht hvm hw hB _ _ hS => ?_)
  rw [hw.1]; have hB : zt_B G u t := hB; rw [hw.2] at hB; have hP := zt_B.P hB ht
  refine lv_if_eq (tgt := 25) hx hb dX2_isUsableAsOld_5 (by decide) (fun c3 => ?_) (fun c3 => ?_)
  · have hf := (if_pos c3).symm.trans hf
    refine lv_iconst (v := 0) hx hb dX2_isUsableAsOld_25 (by decide) ?_
    exact W.zret hx hb hr (zt_bn (by decide)).1 (fun t ht hW => ⟨⟨_, _, rfl, ⟨Option.some.inj hf, rfl⟩, zt_go hE hP hS zt_id ht hW⟩, hS.F ht⟩) hS.2.2 dX2_isUsableAsOld_26
  · have hf := (if_neg c3).symm.trans hf
    refine lv_iload_n hx hb dX2_isUsableAsOld_8 rfl (lv_at hl 2 rfl) ?_
    refine lv_aload_n hx hb dX2_isUsableAsOld_9 rfl (lv_at hl 0 rfl) ?_
    refine va_get (D := zt_D G) (ci := 2) (v := .ref (zt_ad G 88)) (C := RX2) (T := TX2) (N := 11) hx hb hts inX2 hown hK hP 81 (zt_a2 (rfl : zt_kd 81 = 2)) rfl 6 (by decide) fl30 (fun _ h9 => h9) rfl dX2_isUsableAsOld_10 ?_
    refine lv_iload_n hx hb dX2_isUsableAsOld_13 rfl (lv_at hl 1 rfl) ?_
    obtain ⟨g4, hf⟩ := zt_gd_some hf
    refine va_iald hx hb hK hP 88 0 zt_a_88 rfl (zt_gI_in g4) dX2_isUsableAsOld_14 ?_
    refine lv_isub hx hb dX2_isUsableAsOld_15 ?_
    refine lv_bipush (v := 60) hx hb dX2_isUsableAsOld_16 (by decide +kernel) ?_
    refine lv_icmp_ge (tgt := 25) hx hb dX2_isUsableAsOld_18 (by decide) (fun c5 => ?_) (fun c5 => ?_)
    · have hf := (if_pos c5).symm.trans hf
      refine lv_iconst (v := 0) hx hb dX2_isUsableAsOld_25 (by decide) ?_
      exact W.zret hx hb hr (zt_bn (by decide)).1 (fun t ht hW => ⟨⟨_, _, rfl, ⟨Option.some.inj hf, rfl⟩, zt_go hE hP hS zt_id ht hW⟩, hS.F ht⟩) hS.2.2 dX2_isUsableAsOld_26
    · have hf := (if_neg c5).symm.trans hf
      refine lv_iconst (v := 1) hx hb dX2_isUsableAsOld_21 (by decide) ?_
      refine lv_goto (tgt := 26) hx hb dX2_isUsableAsOld_22 (by decide) ?_
      exact W.zret hx hb hr (zt_bn (by decide)).1 (fun t ht hW => ⟨⟨_, _, rfl, ⟨Option.some.inj hf, rfl⟩, zt_go hE hP hS zt_id ht hW⟩, hS.F ht⟩) hS.2.2 dX2_isUsableAsOld_26

theorem zh_X2_read : yX2_read.cls = RX2 ∧ yX2_read.cls ≠ "java/lang/invoke/MethodHandle" ∧ yX2_read.cls ≠ "java/lang/invoke/VarHandle" ∧ (parseMethodDescriptor yX2_read.desc).map (fun d => d.parameters.length) = some 3 := by decide +kernel
set_option maxHeartbeats 4000000 in
set_option maxRecDepth 100000 in
theorem m_X2_read (l : Launch) (G : zt_G) {σ : zt_St} {x1 : Int32} {x2 : Int32} {k3 : Nat} (hk3 : zt_kd k3 = 0) {σ1 : zt_St} (hf : f_X2_read σ x1 x2 k3 = some σ1) : zt_Mv l G yX2_read wsX2_read 1 24 [.ref (zt_ad G 81), .int x1, .int x2, .ref (zt_ad G k3)] σ σ1 := by
  refine Met.ofW (cc := cX2_read) (maxL := 4) (ret := none) (by decide) rfl ?_
  intro p e s m args below meth c s₁ B hml hv
  obtain ⟨rfl, hBB⟩ := hv
  have hE := zt_B.env hBB; have hK := hE.2.1; have hP := hBB.2.1
  have hx := B.exec; have hb := B.bytes; have hr := B.returns; have hts := atoms_spec (ws := wsX2_read) B.pre
  have hown : s.vm.findClass RX2 = some m.cls := findClass_of_methodNamed B.named
  have hlocks := B.notSynchronized
  have hS : va_S (zt_A G) s.heap s.heap [] := va_S.rf
  have hl := lv_entry ([.ref (zt_ad G 81), .int x1, .int x2, .ref (zt_ad G k3)]) (n := 4) (Nat.le_of_ble_eq_true rfl)
  rw [lg_entry_eq]
  generalize (lg_sl ([.ref (zt_ad G 81), .int x1, .int x2, .ref (zt_ad G k3)]) ++ List.replicate (4 - (lg_sl ([.ref (zt_ad G 81), .int x1, .int x2, .ref (zt_ad G k3)])).length) Slot.unset).toArray = ls at hl ⊢
  have hl : lv_has ls 4 [(0, .ref (zt_ad G 81)), (1, .int x1), (2, .int x2), (3, .ref (zt_ad G k3))] := hl
  show W p l e (zt_R 1 24) s m ([.ref (zt_ad G 81), .int x1, .int x2, .ref (zt_ad G k3)] : List Value).toArray below meth c s.heap [] 0 0 (MQ below (zt_Cv G σ1) ([.ref (zt_ad G 81), .int x1, .int x2, .ref (zt_ad G k3)] : List Value).toArray s 0 0 (zt_A G)) (F0 m 0 ls [])
  have fl18 := hts (.fieldLink RX2 18 "ZoneTree$Kept" "kinds" "[I") (List.mem_cons_of_mem _ (List.mem_append_left _ (List.mem_append_left _ (List.mem_of_getElem? (i := 0) rfl))))
  have fl21 := hts (.fieldLink RX2 21 "ZoneTree$Kept" "numbers" "[I") (List.mem_cons_of_mem _ (List.mem_append_left _ (List.mem_append_left _ (List.mem_of_getElem? (i := 1) rfl))))
  have fl24 := hts (.fieldLink RX2 24 "ZoneTree$Kept" "ends" "[I") (List.mem_cons_of_mem _ (List.mem_append_left _ (List.mem_append_left _ (List.mem_of_getElem? (i := 2) rfl))))
  have fl27 := hts (.fieldLink RX2 27 "ZoneTree$Kept" "lives" "[I") (List.mem_cons_of_mem _ (List.mem_append_left _ (List.mem_append_left _ (List.mem_of_getElem? (i := 4) rfl))))
  have fl30 := hts (.fieldLink RX2 30 "ZoneTree$Kept" "times" "[I") (List.mem_cons_of_mem _ (List.mem_append_left _ (List.mem_append_left _ (List.mem_of_getElem? (i := 3) rfl))))
  have inX2 : ∀ w ∈ wsX20, w ∈ wsX2_read := fun w h => (List.mem_cons_of_mem _ (List.mem_append_left _ (List.mem_append_right _ h)))
  unfold f_X2_read at hf
  refine lv_aload_n hx hb dX2_read_0 rfl (lv_at hl 0 rfl) ?_
  refine lv_iload_n hx hb dX2_read_1 rfl (lv_at hl 1 rfl) ?_
  obtain ⟨v1, hvv1, hf⟩ := zt_bd_some hf
  refine va_calli (va_runV (As := [.int x1]) (rest := []) ⟨hx, hb, hml, hown, hts⟩ (m_X2_isRow l G (σ := σ) hvv1) (cwV 1 hts gX2_read_X2_isRow rfl rfl rfl zh_X2_isRow ⟨Nat.le_of_ble_eq_true rfl, Nat.le_of_ble_eq_true rfl⟩) ⟨zt_blind, va_recv hK hP (ci := 2) (q0 := 81) rfl (zt_a2 (rfl : zt_kd 81 = 2)), fun U hU hW => ⟨rfl, zt_go hE hP hS zt_id hU hW⟩⟩ rfl rfl hl.1 rfl (lv_room (Nat.le_of_ble_eq_true rfl)) dX2_read_2 ⟨Nat.zero_le _, Nat.zero_le _⟩) hS (fun _ _ h => h) (fun _ h => h) (fun r u t H locs ht hvm hw hB _ _ hS => ?_)
  rw [hw.1]; have hB : zt_B G u t := hB; rw [hw.2] at hB; have hP := zt_B.P hB ht
  refine lv_if_eq (tgt := 45) hx hb dX2_read_5 (by decide) (fun c3 => ?_) (fun c3 => ?_)
  · have hf := (if_pos c3).symm.trans hf
    exact W.vret hx hb hr (fun t ht hW => ⟨⟨_, rfl, (Option.some.inj hf), zt_go hE hP hS zt_id ht hW⟩, hS.F ht⟩) hS.2.2 dX2_read_45
  · have hf := (if_neg c3).symm.trans hf
    refine lv_aload_n hx hb dX2_read_8 rfl (lv_at hl 3 rfl) ?_
    refine lv_aload_n hx hb dX2_read_9 rfl (lv_at hl 0 rfl) ?_
    refine va_get (D := zt_D G) (ci := 2) (v := .ref (zt_ad G 84)) (C := RX2) (T := TX2) (N := 11) hx hb hts inX2 hown hK hP 81 (zt_a2 (rfl : zt_kd 81 = 2)) rfl 2 (by decide) fl18 (fun _ h9 => h9) rfl dX2_read_10 ?_
    refine lv_iload_n hx hb dX2_read_13 rfl (lv_at hl 1 rfl) ?_
    obtain ⟨g4, hf⟩ := zt_gd_some hf
    refine va_iald hx hb hK hP 84 0 zt_a_84 rfl (zt_gI_in g4) dX2_read_14 ?_
    refine lv_aload_n hx hb dX2_read_15 rfl (lv_at hl 0 rfl) ?_
    refine va_get (D := zt_D G) (ci := 2) (v := .ref (zt_ad G 85)) (C := RX2) (T := TX2) (N := 11) hx hb hts inX2 hown hK hP 81 (zt_a2 (rfl : zt_kd 81 = 2)) rfl 3 (by decide) fl21 (fun _ h9 => h9) rfl dX2_read_16 ?_
    refine lv_iload_n hx hb dX2_read_19 rfl (lv_at hl 1 rfl) ?_
    obtain ⟨g5, hf⟩ := zt_gd_some hf
    refine va_iald hx hb hK hP 85 0 zt_a_85 rfl (zt_gI_in g5) dX2_read_20 ?_
    refine lv_aload_n hx hb dX2_read_21 rfl (lv_at hl 0 rfl) ?_
    refine va_get (D := zt_D G) (ci := 2) (v := .ref (zt_ad G 86)) (C := RX2) (T := TX2) (N := 11) hx hb hts inX2 hown hK hP 81 (zt_a2 (rfl : zt_kd 81 = 2)) rfl 4 (by decide) fl24 (fun _ h9 => h9) rfl dX2_read_22 ?_
    refine lv_iload_n hx hb dX2_read_25 rfl (lv_at hl 1 rfl) ?_
    obtain ⟨g6, hf⟩ := zt_gd_some hf
    refine va_iald hx hb hK hP 86 0 zt_a_86 rfl (zt_gI_in g6) dX2_read_26 ?_
    refine lv_aload_n hx hb dX2_read_27 rfl (lv_at hl 0 rfl) ?_
    refine va_get (D := zt_D G) (ci := 2) (v := .ref (zt_ad G 88)) (C := RX2) (T := TX2) (N := 11) hx hb hts inX2 hown hK hP 81 (zt_a2 (rfl : zt_kd 81 = 2)) rfl 6 (by decide) fl30 (fun _ h9 => h9) rfl dX2_read_28 ?_
    refine lv_iload_n hx hb dX2_read_31 rfl (lv_at hl 1 rfl) ?_
    obtain ⟨g7, hf⟩ := zt_gd_some hf
    refine va_iald hx hb hK hP 88 0 zt_a_88 rfl (zt_gI_in g7) dX2_read_32 ?_
    refine lv_aload_n hx hb dX2_read_33 rfl (lv_at hl 0 rfl) ?_
    refine va_get (D := zt_D G) (ci := 2) (v := .ref (zt_ad G 87)) (C := RX2) (T := TX2) (N := 11) hx hb hts inX2 hown hK hP 81 (zt_a2 (rfl : zt_kd 81 = 2)) rfl 5 (by decide) fl27 (fun _ h9 => h9) rfl dX2_read_34 ?_
    refine lv_iload_n hx hb dX2_read_37 rfl (lv_at hl 1 rfl) ?_
    obtain ⟨g8, hf⟩ := zt_gd_some hf
    refine va_iald hx hb hK hP 87 0 zt_a_87 rfl (zt_gI_in g8) dX2_read_38 ?_
    refine lv_iadd hx hb dX2_read_39 ?_
    refine lv_iload_n hx hb dX2_read_40 rfl (lv_at hl 2 rfl) ?_
    refine lv_isub hx hb dX2_read_41 ?_
    obtain ⟨σ10, hvv9, hf⟩ := zt_bd_some hf
    refine va_callv (va_runV (As := [.int (σ 84 x1.toNatClampNeg), .int (σ 85 x1.toNatClampNeg), .int (σ 86 x1.toNatClampNeg), .int (((σ 88 x1.toNatClampNeg) + (σ 87 x1.toNatClampNeg)) - x2)]) (rest := []) ⟨hx, hb, hml, hown, hts⟩ (m_X0_tell l G hk3 (σ := σ) hvv9) (cwV 4 hts gX2_read_X0_tell rfl rfl rfl zh_X0_tell ⟨Nat.le_of_ble_eq_true rfl, Nat.le_of_ble_eq_true rfl⟩) ⟨zt_blind, va_recv hK hP (ci := 0) (q0 := k3) rfl (zt_a0 hk3), fun U hU hW => ⟨rfl, zt_go hE hP hS zt_id hU hW⟩⟩ rfl rfl hl.1 rfl (lv_room (Nat.le_of_ble_eq_true rfl)) dX2_read_42 ⟨Nat.zero_le _, Nat.zero_le _⟩) hS (fun _ _ h => h) (fun _ h => h) (fun u t H locs ht hvm hw hB _ _ hS => ?_)
    have hB : zt_B G u t := hB; rw [hw] at hB; have hP := zt_B.P hB ht
    exact W.vret hx hb hr (fun t ht hW => ⟨⟨_, rfl, (Option.some.inj hf), zt_go hE hP hS zt_id ht hW⟩, hS.F ht⟩) hS.2.2 dX2_read_45

theorem zh_X2_rowToKeepIn : yX2_rowToKeepIn.cls = RX2 ∧ yX2_rowToKeepIn.cls ≠ "java/lang/invoke/MethodHandle" ∧ yX2_rowToKeepIn.cls ≠ "java/lang/invoke/VarHandle" ∧ (parseMethodDescriptor yX2_rowToKeepIn.desc).map (fun d => d.parameters.length) = some 2 := by decide +kernel
set_option maxHeartbeats 4000000 in
set_option maxRecDepth 100000 in
theorem m_X2_rowToKeepIn (l : Launch) (G : zt_G) {σ : zt_St} {x1 : Int32} {x2 : Int32} {r : Int32} {σ1 : zt_St} (hf : f_X2_rowToKeepIn σ x1 x2 = some (r, σ1)) : zt_Mi l G yX2_rowToKeepIn wsX2_rowToKeepIn 1 23 [.ref (zt_ad G 81), .int x1, .int x2] σ r σ1 := by
  refine Met.ofW (cc := cX2_rowToKeepIn) (maxL := 7) (ret := (some .int)) (by decide) rfl ?_
  intro p e s m args below meth c s₁ B hml hv
  obtain ⟨rfl, hBB⟩ := hv
  have hE := zt_B.env hBB; have hK := hE.2.1; have hP := hBB.2.1
  have hx := B.exec; have hb := B.bytes; have hr := B.returns; have hts := atoms_spec (ws := wsX2_rowToKeepIn) B.pre
  have hown : s.vm.findClass RX2 = some m.cls := findClass_of_methodNamed B.named
  have hlocks := B.notSynchronized
  have hS : va_S (zt_A G) s.heap s.heap [] := va_S.rf
  have hl := lv_entry ([.ref (zt_ad G 81), .int x1, .int x2]) (n := 7) (Nat.le_of_ble_eq_true rfl)
  rw [lg_entry_eq]
  generalize (lg_sl ([.ref (zt_ad G 81), .int x1, .int x2]) ++ List.replicate (7 - (lg_sl ([.ref (zt_ad G 81), .int x1, .int x2])).length) Slot.unset).toArray = ls at hl ⊢
  have hl : lv_has ls 7 [(0, .ref (zt_ad G 81)), (1, .int x1), (2, .int x2)] := hl
  show W p l e (zt_R 1 23) s m ([.ref (zt_ad G 81), .int x1, .int x2] : List Value).toArray below meth c s.heap [] 0 0 (MQ below (zt_Ci G r σ1) ([.ref (zt_ad G 81), .int x1, .int x2] : List Value).toArray s 0 0 (zt_A G)) (F0 m 0 ls [])
  have fl9 := hts (.fieldLink RX2 9 "ZoneTree$Kept" "names" "[I") (List.mem_cons_of_mem _ (List.mem_append_left _ (List.mem_of_getElem? (i := 1) rfl)))
  have fl33 := hts (.fieldLink RX2 33 "ZoneTree$Kept" "turns" "[I") (List.mem_cons_of_mem _ (List.mem_append_left _ (List.mem_of_getElem? (i := 3) rfl)))
  have fl39 := hts (.fieldLink RX2 39 "ZoneTree$Kept" "count" "I") (List.mem_cons_of_mem _ (List.mem_append_left _ (List.mem_of_getElem? (i := 0) rfl)))
  have fl69 := hts (.fieldLink RX2 69 "ZoneTree$Kept" "turn" "I") (List.mem_cons_of_mem _ (List.mem_append_left _ (List.mem_of_getElem? (i := 2) rfl)))
  have inX2 : ∀ w ∈ wsX20, w ∈ wsX2_rowToKeepIn := fun w h => (List.mem_cons_of_mem _ (List.mem_append_right _ h))
  have B99 : ∀ (rc55 : zt_St → Int32 → Int32 → Int32 → Option (Int32 × zt_St)) (hrc55 : ∀ (σ : zt_St) (u4 : Int32) (u5 : Int32) (u6 : Int32) (H : Heap) (locs : List Loc) (ls : Array Slot), rc55 σ u4 u5 u6 = some (r, σ1) → va_P (zt_D G) vwCl (zt_ww G σ) H → va_S (zt_A G) s.heap H locs → lv_has ls 7 [(0, .ref (zt_ad G 81)), (4, .int u4), (5, .int u5), (6, .int u6)] → W p l e (zt_R 1 23) s m ([.ref (zt_ad G 81), .int x1, .int x2] : List Value).toArray below meth c H locs 0 0 (MQ below (zt_Ci G r σ1) ([.ref (zt_ad G 81), .int x1, .int x2] : List Value).toArray s 0 0 (zt_A G)) (F0 m 55 ls [])), ∀ (σ : zt_St) (u4 : Int32) (u5 : Int32) (u6 : Int32) (H : Heap) (locs : List Loc) (ls : Array Slot), f_X2_rowToKeepIn_99 rc55 σ u4 u5 u6 = some (r, σ1) → va_P (zt_D G) vwCl (zt_ww G σ) H → va_S (zt_A G) s.heap H locs → lv_has ls 7 [(0, .ref (zt_ad G 81)), (4, .int u4), (5, .int u5), (6, .int u6)] → W p l e (zt_R 1 23) s m ([.ref (zt_ad G 81), .int x1, .int x2] : List Value).toArray below meth c H locs 0 0 (MQ below (zt_Ci G r σ1) ([.ref (zt_ad G 81), .int x1, .int x2] : List Value).toArray s 0 0 (zt_A G)) (F0 m 99 ls []) := by
    intro rc55 hrc55 σ u4 u5 u6 H locs ls hf hP hS hl
    unfold f_X2_rowToKeepIn_99 at hf
    refine lv_iinc (v := (u6 + 1)) (lv' := [(6, .int (u6 + 1)), (0, .ref (zt_ad G 81)), (4, .int u4), (5, .int u5)]) hx hb dX2_rowToKeepIn_99 hl (k := 3) rfl rfl (by decide) rfl (fun ls hl => ?_)
    refine lv_goto (tgt := 55) hx hb dX2_rowToKeepIn_102 (by decide) ?_
    exact hrc55 σ u4 u5 (u6 + 1) _ _ _ hf hP hS (lv_sub hl [1, 2, 3, 0] rfl)
  have B55 : ∀ (n : Nat), ∀ (σ : zt_St) (u4 : Int32) (u5 : Int32) (u6 : Int32) (H : Heap) (locs : List Loc) (ls : Array Slot), f_X2_rowToKeepIn_55 n σ u4 u5 u6 = some (r, σ1) → va_P (zt_D G) vwCl (zt_ww G σ) H → va_S (zt_A G) s.heap H locs → lv_has ls 7 [(0, .ref (zt_ad G 81)), (4, .int u4), (5, .int u5), (6, .int u6)] → W p l e (zt_R 1 23) s m ([.ref (zt_ad G 81), .int x1, .int x2] : List Value).toArray below meth c H locs 0 0 (MQ below (zt_Ci G r σ1) ([.ref (zt_ad G 81), .int x1, .int x2] : List Value).toArray s 0 0 (zt_A G)) (F0 m 55 ls []) := by
    intro n
    induction n with
    | zero => intro σ u4 u5 u6 H locs ls hf; exact nomatch hf
    | succ n hrc55 =>
      intro σ u4 u5 u6 H locs ls hf hP hS hl
      generalize hrcg : f_X2_rowToKeepIn_55 n = rc55 at hrc55
      have hf : f_X2_rowToKeepIn_55b rc55 σ u4 u5 u6 = some (r, σ1) := by rw [← hrcg]; exact hf
      unfold f_X2_rowToKeepIn_55b at hf
      refine lv_iload hx hb dX2_rowToKeepIn_55 (lv_at hl 3 rfl) ?_
      refine lv_aload_n hx hb dX2_rowToKeepIn_57 rfl (lv_at hl 0 rfl) ?_
      refine va_get (D := zt_D G) (ci := 2) (v := .int (σ 81 8)) (C := RX2) (T := TX2) (N := 11) hx hb hts inX2 hown hK hP 81 (zt_a2 (rfl : zt_kd 81 = 2)) rfl 8 (by decide) fl39 (fun _ h9 => h9) rfl dX2_rowToKeepIn_58 ?_
      refine lv_icmp_ge (tgt := 105) hx hb dX2_rowToKeepIn_61 (by decide) (fun c6 => ?_) (fun c6 => ?_)
      · have hf := (if_pos c6).symm.trans hf
        refine lv_iload hx hb dX2_rowToKeepIn_105 (lv_at hl 1 rfl) ?_
        exact W.iret hx hb hr (fun t ht hW => ⟨⟨_, _, rfl, (Prod.mk.inj (Option.some.inj hf)), zt_go hE hP hS zt_id ht hW⟩, hS.F ht⟩) hS.2.2 dX2_rowToKeepIn_107
      · have hf := (if_neg c6).symm.trans hf
        refine lv_iload hx hb dX2_rowToKeepIn_64 (lv_at hl 3 rfl) ?_
        refine lv_aload_n hx hb dX2_rowToKeepIn_66 rfl (lv_at hl 0 rfl) ?_
        refine va_get (D := zt_D G) (ci := 2) (v := .ref (zt_ad G 89)) (C := RX2) (T := TX2) (N := 11) hx hb hts inX2 hown hK hP 81 (zt_a2 (rfl : zt_kd 81 = 2)) rfl 7 (by decide) fl33 (fun _ h9 => h9) rfl dX2_rowToKeepIn_67 ?_
        refine va_alen hx hb hK hP 89 0 zt_a_89 rfl (v := 40) (show Int32.ofNat 40 = 40 by decide +kernel) dX2_rowToKeepIn_70 ?_
        refine lv_icmp_ge (tgt := 105) hx hb dX2_rowToKeepIn_71 (by decide) (fun c7 => ?_) (fun c7 => ?_)
        · have hf := (if_pos c7).symm.trans hf
          refine lv_iload hx hb dX2_rowToKeepIn_105 (lv_at hl 1 rfl) ?_
          exact W.iret hx hb hr (fun t ht hW => ⟨⟨_, _, rfl, (Prod.mk.inj (Option.some.inj hf)), zt_go hE hP hS zt_id ht hW⟩, hS.F ht⟩) hS.2.2 dX2_rowToKeepIn_107
        · have hf := (if_neg c7).symm.trans hf
          refine lv_aload_n hx hb dX2_rowToKeepIn_74 rfl (lv_at hl 0 rfl) ?_
          refine va_get (D := zt_D G) (ci := 2) (v := .ref (zt_ad G 89)) (C := RX2) (T := TX2) (N := 11) hx hb hts inX2 hown hK hP 81 (zt_a2 (rfl : zt_kd 81 = 2)) rfl 7 (by decide) fl33 (fun _ h9 => h9) rfl dX2_rowToKeepIn_75 ?_
          refine lv_iload hx hb dX2_rowToKeepIn_78 (lv_at hl 3 rfl) ?_
          obtain ⟨g8, hf⟩ := zt_gd_some hf
          refine va_iald hx hb hK hP 89 0 zt_a_89 rfl (zt_gI_in g8) dX2_rowToKeepIn_80 ?_
          refine lv_iload hx hb dX2_rowToKeepIn_81 (lv_at hl 2 rfl) ?_
          refine lv_icmp_ge (tgt := 99) hx hb dX2_rowToKeepIn_83 (by decide) (fun c9 => ?_) (fun c9 => ?_)
          · have hf := (if_pos c9).symm.trans hf
            exact B99 rc55 hrc55 σ u4 u5 u6 _ _ _ hf hP hS (lv_sub hl [0, 1, 2, 3] rfl)
          · have hf := (if_neg c9).symm.trans hf
            refine lv_iload hx hb dX2_rowToKeepIn_86 (lv_at hl 3 rfl) ?_
            refine lv_istore (lv' := [(4, .int u6), (0, .ref (zt_ad G 81)), (5, .int u5), (6, .int u6)]) hx hb dX2_rowToKeepIn_88 hl (by decide) rfl (fun ls hl => ?_)
            refine lv_aload_n hx hb dX2_rowToKeepIn_90 rfl (lv_at hl 1 rfl) ?_
            refine va_get (D := zt_D G) (ci := 2) (v := .ref (zt_ad G 89)) (C := RX2) (T := TX2) (N := 11) hx hb hts inX2 hown hK hP 81 (zt_a2 (rfl : zt_kd 81 = 2)) rfl 7 (by decide) fl33 (fun _ h9 => h9) rfl dX2_rowToKeepIn_91 ?_
            refine lv_iload hx hb dX2_rowToKeepIn_94 (lv_at hl 3 rfl) ?_
            obtain ⟨g10, hf⟩ := zt_gd_some hf
            refine va_iald hx hb hK hP 89 0 zt_a_89 rfl (zt_gI_in g10) dX2_rowToKeepIn_96 ?_
            refine lv_istore (lv' := [(5, .int (σ 89 u6.toNatClampNeg)), (4, .int u6), (0, .ref (zt_ad G 81)), (6, .int u6)]) hx hb dX2_rowToKeepIn_97 hl (by decide) rfl (fun ls hl => ?_)
            exact B99 rc55 hrc55 σ u6 (σ 89 u6.toNatClampNeg) u6 _ _ _ hf hP hS (lv_sub hl [2, 1, 0, 3] rfl)
  unfold f_X2_rowToKeepIn at hf
  refine lv_aload_n hx hb dX2_rowToKeepIn_0 rfl (lv_at hl 0 rfl) ?_
  refine lv_iload_n hx hb dX2_rowToKeepIn_1 rfl (lv_at hl 1 rfl) ?_
  refine lv_iload_n hx hb dX2_rowToKeepIn_2 rfl (lv_at hl 2 rfl) ?_
  obtain ⟨v1, hvv1, hf⟩ := zt_bd_some hf
  refine va_calli (va_runV (As := [.int x1, .int x2]) (rest := []) ⟨hx, hb, hml, hown, hts⟩ (m_X2_rowOf l G (σ := σ) hvv1) (cwV 2 hts gX2_rowToKeepIn_X2_rowOf rfl rfl rfl zh_X2_rowOf ⟨Nat.le_of_ble_eq_true rfl, Nat.le_of_ble_eq_true rfl⟩) ⟨zt_blind, va_recv hK hP (ci := 2) (q0 := 81) rfl (zt_a2 (rfl : zt_kd 81 = 2)), fun U hU hW => ⟨rfl, zt_go hE hP hS zt_id hU hW⟩⟩ rfl rfl hl.1 rfl (lv_room (Nat.le_of_ble_eq_true rfl)) dX2_rowToKeepIn_3 ⟨Nat.zero_le _, Nat.zero_le _⟩) hS (fun _ _ h => h) (fun _ h => h) (fun r u t H locs ht hvm hw hB _ _ hS => ?_)
  rw [hw.1]; have hB : zt_B G u t := hB; rw [hw.2] at hB; have hP := zt_B.P hB ht
  refine lv_istore_n (lv' := [(3, .int v1), (0, .ref (zt_ad G 81)), (1, .int x1), (2, .int x2)]) hx hb dX2_rowToKeepIn_6 rfl hl (by decide) rfl (fun ls hl => ?_)
  refine lv_iload_n hx hb dX2_rowToKeepIn_7 rfl (lv_at hl 0 rfl) ?_
  refine lv_iconst (v := (-1)) hx hb dX2_rowToKeepIn_8 (by decide) ?_
  refine lv_icmp_eq (tgt := 14) hx hb dX2_rowToKeepIn_9 (by decide) (fun c3 => ?_) (fun c3 => ?_)
  · have hf := (if_pos c3).symm.trans hf
    refine lv_aload_n hx hb dX2_rowToKeepIn_14 rfl (lv_at hl 1 rfl) ?_
    refine va_get (D := zt_D G) (ci := 2) (v := .int (σ 81 8)) (C := RX2) (T := TX2) (N := 11) hx hb hts inX2 hown hK hP 81 (zt_a2 (rfl : zt_kd 81 = 2)) rfl 8 (by decide) fl39 (fun _ h9 => h9) rfl dX2_rowToKeepIn_15 ?_
    refine lv_aload_n hx hb dX2_rowToKeepIn_18 rfl (lv_at hl 1 rfl) ?_
    refine va_get (D := zt_D G) (ci := 2) (v := .ref (zt_ad G 82)) (C := RX2) (T := TX2) (N := 11) hx hb hts inX2 hown hK hP 81 (zt_a2 (rfl : zt_kd 81 = 2)) rfl 0 (by decide) fl9 (fun _ h9 => h9) rfl dX2_rowToKeepIn_19 ?_
    refine va_alen hx hb hK hP 82 0 zt_a_82 rfl (v := 40) (show Int32.ofNat 40 = 40 by decide +kernel) dX2_rowToKeepIn_22 ?_
    refine lv_icmp_ge (tgt := 43) hx hb dX2_rowToKeepIn_23 (by decide) (fun c4 => ?_) (fun c4 => ?_)
    · have hf := (if_pos c4).symm.trans hf
      refine lv_iconst (v := (-1)) hx hb dX2_rowToKeepIn_43 (by decide) ?_
      refine lv_istore (lv' := [(4, .int (-1)), (3, .int v1), (0, .ref (zt_ad G 81)), (1, .int x1), (2, .int x2)]) hx hb dX2_rowToKeepIn_44 hl (by decide) rfl (fun ls hl => ?_)
      refine lv_aload_n hx hb dX2_rowToKeepIn_46 rfl (lv_at hl 2 rfl) ?_
      refine va_get (D := zt_D G) (ci := 2) (v := .int (σ 81 9)) (C := RX2) (T := TX2) (N := 11) hx hb hts inX2 hown hK hP 81 (zt_a2 (rfl : zt_kd 81 = 2)) rfl 9 (by decide) fl69 (fun _ h9 => h9) rfl dX2_rowToKeepIn_47 ?_
      refine lv_istore (lv' := [(5, .int (σ 81 9)), (4, .int (-1)), (3, .int v1), (0, .ref (zt_ad G 81)), (1, .int x1), (2, .int x2)]) hx hb dX2_rowToKeepIn_50 hl (by decide) rfl (fun ls hl => ?_)
      refine lv_iconst (v := 0) hx hb dX2_rowToKeepIn_52 (by decide) ?_
      refine lv_istore (lv' := [(6, .int 0), (5, .int (σ 81 9)), (4, .int (-1)), (3, .int v1), (0, .ref (zt_ad G 81)), (1, .int x1), (2, .int x2)]) hx hb dX2_rowToKeepIn_53 hl (by decide) rfl (fun ls hl => ?_)
      exact B55 zt_FU σ (-1) (σ 81 9) 0 _ _ _ hf hP hS (lv_sub hl [4, 2, 1, 0] rfl)
    · have hf := (if_neg c4).symm.trans hf
      refine lv_aload_n hx hb dX2_rowToKeepIn_26 rfl (lv_at hl 1 rfl) ?_
      refine lv_dup hx hb dX2_rowToKeepIn_27 rfl ?_
      refine va_get (D := zt_D G) (ci := 2) (v := .int (σ 81 8)) (C := RX2) (T := TX2) (N := 11) hx hb hts inX2 hown hK hP 81 (zt_a2 (rfl : zt_kd 81 = 2)) rfl 8 (by decide) fl39 (fun _ h9 => h9) rfl dX2_rowToKeepIn_28 ?_
      refine lv_iconst (v := 1) hx hb dX2_rowToKeepIn_31 (by decide) ?_
      refine lv_iadd hx hb dX2_rowToKeepIn_32 ?_
      obtain ⟨σ5, hσ5, hf⟩ := zt_lt_some hf
      refine va_put (D := zt_D G) (ci := 2) (v := .int ((σ 81 8) + 1)) (ty := .int) (C := RX2) (T := TX2) (N := 11) hx hb hts inX2 tyX2 tyX2_ok nmX2 hown hK hP (zt_apart hE.1) hS 81 (zt_a2 (rfl : zt_kd 81 = 2)) rfl 8 (by decide) fl39 (fun _ h9 => h9) rfl (tyX2_ok 8 (by decide)) rfl rfl (Nat.le_of_ble_eq_true rfl) dX2_rowToKeepIn_33 (fun H locs hP _ hS => ?_)
      rw [zt_p2_8 (rfl : zt_kd 81 = 2), ← hσ5] at hP
      refine lv_aload_n hx hb dX2_rowToKeepIn_36 rfl (lv_at hl 1 rfl) ?_
      refine va_get (D := zt_D G) (ci := 2) (v := .int (σ5 81 8)) (C := RX2) (T := TX2) (N := 11) hx hb hts inX2 hown hK hP 81 (zt_a2 (rfl : zt_kd 81 = 2)) rfl 8 (by decide) fl39 (fun _ h9 => h9) rfl dX2_rowToKeepIn_37 ?_
      refine lv_iconst (v := 1) hx hb dX2_rowToKeepIn_40 (by decide) ?_
      refine lv_isub hx hb dX2_rowToKeepIn_41 ?_
      exact W.iret hx hb hr (fun t ht hW => ⟨⟨_, _, rfl, (Prod.mk.inj (Option.some.inj hf)), zt_go hE hP hS zt_id ht hW⟩, hS.F ht⟩) hS.2.2 dX2_rowToKeepIn_42
  · have hf := (if_neg c3).symm.trans hf
    refine lv_iload_n hx hb dX2_rowToKeepIn_12 rfl (lv_at hl 0 rfl) ?_
    exact W.iret hx hb hr (fun t ht hW => ⟨⟨_, _, rfl, (Prod.mk.inj (Option.some.inj hf)), zt_go hE hP hS zt_id ht hW⟩, hS.F ht⟩) hS.2.2 dX2_rowToKeepIn_13

theorem zh_X2_keepAnswer : yX2_keepAnswer.cls = RX2 ∧ yX2_keepAnswer.cls ≠ "java/lang/invoke/MethodHandle" ∧ yX2_keepAnswer.cls ≠ "java/lang/invoke/VarHandle" ∧ (parseMethodDescriptor yX2_keepAnswer.desc).map (fun d => d.parameters.length) = some 4 := by decide +kernel
set_option maxHeartbeats 4000000 in
set_option maxRecDepth 100000 in
theorem m_X2_keepAnswer (l : Launch) (G : zt_G) {σ : zt_St} {x1 : Int32} {x2 : Int32} {k3 : Nat} (hk3 : zt_kd k3 = 0) {x4 : Int32} {σ1 : zt_St} (hf : f_X2_keepAnswer σ x1 x2 k3 x4 = some σ1) : zt_Mv l G yX2_keepAnswer wsX2_keepAnswer 2 49 [.ref (zt_ad G 81), .int x1, .int x2, .ref (zt_ad G k3), .int x4] σ σ1 := by
  refine Met.ofW (cc := cX2_keepAnswer) (maxL := 6) (ret := none) (by decide) rfl ?_
  intro p e s m args below meth c s₁ B hml hv
  obtain ⟨rfl, hBB⟩ := hv
  have hE := zt_B.env hBB; have hK := hE.2.1; have hP := hBB.2.1
  have hx := B.exec; have hb := B.bytes; have hr := B.returns; have hts := atoms_spec (ws := wsX2_keepAnswer) B.pre
  have hown : s.vm.findClass RX2 = some m.cls := findClass_of_methodNamed B.named
  have hlocks := B.notSynchronized
  have hS : va_S (zt_A G) s.heap s.heap [] := va_S.rf
  have hl := lv_entry ([.ref (zt_ad G 81), .int x1, .int x2, .ref (zt_ad G k3), .int x4]) (n := 6) (Nat.le_of_ble_eq_true rfl)
  rw [lg_entry_eq]
  generalize (lg_sl ([.ref (zt_ad G 81), .int x1, .int x2, .ref (zt_ad G k3), .int x4]) ++ List.replicate (6 - (lg_sl ([.ref (zt_ad G 81), .int x1, .int x2, .ref (zt_ad G k3), .int x4])).length) Slot.unset).toArray = ls at hl ⊢
  have hl : lv_has ls 6 [(0, .ref (zt_ad G 81)), (1, .int x1), (2, .int x2), (3, .ref (zt_ad G k3)), (4, .int x4)] := hl
  show W p l e (zt_R 2 49) s m ([.ref (zt_ad G 81), .int x1, .int x2, .ref (zt_ad G k3), .int x4] : List Value).toArray below meth c s.heap [] 0 0 (MQ below (zt_Cv G σ1) ([.ref (zt_ad G 81), .int x1, .int x2, .ref (zt_ad G k3), .int x4] : List Value).toArray s 0 0 (zt_A G)) (F0 m 0 ls [])
  have fl9 := hts (.fieldLink RX2 9 "ZoneTree$Kept" "names" "[I") (List.mem_cons_of_mem _ (List.mem_append_left _ (List.mem_append_left _ (List.mem_of_getElem? (i := 0) rfl))))
  have fl15 := hts (.fieldLink RX2 15 "ZoneTree$Kept" "sorts" "[I") (List.mem_cons_of_mem _ (List.mem_append_left _ (List.mem_append_left _ (List.mem_of_getElem? (i := 1) rfl))))
  have fl18 := hts (.fieldLink RX2 18 "ZoneTree$Kept" "kinds" "[I") (List.mem_cons_of_mem _ (List.mem_append_left _ (List.mem_append_left _ (List.mem_of_getElem? (i := 2) rfl))))
  have fl21 := hts (.fieldLink RX2 21 "ZoneTree$Kept" "numbers" "[I") (List.mem_cons_of_mem _ (List.mem_append_left _ (List.mem_append_left _ (List.mem_of_getElem? (i := 3) rfl))))
  have fl24 := hts (.fieldLink RX2 24 "ZoneTree$Kept" "ends" "[I") (List.mem_cons_of_mem _ (List.mem_append_left _ (List.mem_append_left _ (List.mem_of_getElem? (i := 4) rfl))))
  have fl27 := hts (.fieldLink RX2 27 "ZoneTree$Kept" "lives" "[I") (List.mem_cons_of_mem _ (List.mem_append_left _ (List.mem_append_left _ (List.mem_of_getElem? (i := 5) rfl))))
  have fl30 := hts (.fieldLink RX2 30 "ZoneTree$Kept" "times" "[I") (List.mem_cons_of_mem _ (List.mem_append_left _ (List.mem_append_left _ (List.mem_of_getElem? (i := 6) rfl))))
  have fl33 := hts (.fieldLink RX2 33 "ZoneTree$Kept" "turns" "[I") (List.mem_cons_of_mem _ (List.mem_append_left _ (List.mem_append_left _ (List.mem_of_getElem? (i := 7) rfl))))
  have fl57 := zt_Nw.use (args := ([.ref (zt_ad G 81), .int x1, .int x2, .ref (zt_ad G k3), .int x4] : List Value).toArray) hE.2.2.1 (q := ("ZoneTree$Kept", 57, "ZoneTree$Answer", "kind", "I", "ZoneTree")) (List.mem_of_getElem? (i := 14) rfl)
  have fl60 := zt_Nw.use (args := ([.ref (zt_ad G 81), .int x1, .int x2, .ref (zt_ad G k3), .int x4] : List Value).toArray) hE.2.2.1 (q := ("ZoneTree$Kept", 60, "ZoneTree$Answer", "number", "I", "ZoneTree")) (List.mem_of_getElem? (i := 17) rfl)
  have fl63 := zt_Nw.use (args := ([.ref (zt_ad G 81), .int x1, .int x2, .ref (zt_ad G k3), .int x4] : List Value).toArray) hE.2.2.1 (q := ("ZoneTree$Kept", 63, "ZoneTree$Answer", "name", "I", "ZoneTree")) (List.mem_of_getElem? (i := 19) rfl)
  have fl66 := zt_Nw.use (args := ([.ref (zt_ad G 81), .int x1, .int x2, .ref (zt_ad G k3), .int x4] : List Value).toArray) hE.2.2.1 (q := ("ZoneTree$Kept", 66, "ZoneTree$Answer", "life", "I", "ZoneTree")) (List.mem_of_getElem? (i := 21) rfl)
  have fl69 := hts (.fieldLink RX2 69 "ZoneTree$Kept" "turn" "I") (List.mem_cons_of_mem _ (List.mem_append_left _ (List.mem_append_left _ (List.mem_of_getElem? (i := 8) rfl))))
  have inX0 : ∀ w ∈ wsX00, w ∈ wsX2_keepAnswer := fun w h => (List.mem_cons_of_mem _ (List.mem_append_right _ h))
  have inX2 : ∀ w ∈ wsX20, w ∈ wsX2_keepAnswer := fun w h => (List.mem_cons_of_mem _ (List.mem_append_left _ (List.mem_append_right _ h)))
  unfold f_X2_keepAnswer at hf
  refine lv_aload_n hx hb dX2_keepAnswer_0 rfl (lv_at hl 0 rfl) ?_
  refine lv_iload_n hx hb dX2_keepAnswer_1 rfl (lv_at hl 1 rfl) ?_
  refine lv_iload_n hx hb dX2_keepAnswer_2 rfl (lv_at hl 2 rfl) ?_
  obtain ⟨⟨v1a, σ2a⟩, hvv1, hf⟩ := zt_bd_some hf
  obtain ⟨v1, hv1, hf⟩ := zt_lt_some hf; obtain ⟨σ2, hσ2, hf⟩ := zt_lt_some hf; rw [show (v1a, σ2a) = (v1, σ2) from by rw [hv1, hσ2]] at hvv1
  refine va_calli (va_runV (As := [.int x1, .int x2]) (rest := []) ⟨hx, hb, hml, hown, hts⟩ (m_X2_rowToKeepIn l G (σ := σ) hvv1) (cwV 2 hts gX2_keepAnswer_X2_rowToKeepIn rfl rfl rfl zh_X2_rowToKeepIn ⟨Nat.le_of_ble_eq_true rfl, Nat.le_of_ble_eq_true rfl⟩) ⟨zt_blind, va_recv hK hP (ci := 2) (q0 := 81) rfl (zt_a2 (rfl : zt_kd 81 = 2)), fun U hU hW => ⟨rfl, zt_go hE hP hS zt_id hU hW⟩⟩ rfl rfl hl.1 rfl (lv_room (Nat.le_of_ble_eq_true rfl)) dX2_keepAnswer_3 ⟨Nat.zero_le _, Nat.zero_le _⟩) hS (fun _ _ h => h) (fun _ h => h) (fun r u t H locs ht hvm hw hB _ _ hS => ?_)
  rw [hw.1]; have hB : zt_B G u t := hB; rw [hw.2] at hB; have hP := zt_B.P hB ht
  refine lv_istore (lv' := [(5, .int v1), (0, .ref (zt_ad G 81)), (1, .int x1), (2, .int x2), (3, .ref (zt_ad G k3)), (4, .int x4)]) hx hb dX2_keepAnswer_6 hl (by decide) rfl (fun ls hl => ?_)
  refine lv_aload_n hx hb dX2_keepAnswer_8 rfl (lv_at hl 1 rfl) ?_
  refine lv_iload hx hb dX2_keepAnswer_9 (lv_at hl 0 rfl) ?_
  obtain ⟨v4, hvv4, hf⟩ := zt_bd_some hf
  refine va_calli (va_runV (As := [.int v1]) (rest := []) ⟨hx, hb, hml, hown, hts⟩ (m_X2_isRow l G (σ := σ2) hvv4) (cwV 1 hts gX2_keepAnswer_X2_isRow rfl rfl rfl zh_X2_isRow ⟨Nat.le_of_ble_eq_true rfl, Nat.le_of_ble_eq_true rfl⟩) ⟨zt_blind, va_recv hK hP (ci := 2) (q0 := 81) rfl (zt_a2 (rfl : zt_kd 81 = 2)), fun U hU hW => ⟨rfl, zt_go hE hP hS zt_id hU hW⟩⟩ rfl rfl hl.1 rfl (lv_room (Nat.le_of_ble_eq_true rfl)) dX2_keepAnswer_11 ⟨Nat.zero_le _, Nat.zero_le _⟩) hS (fun _ _ h => h) (fun _ h => h) (fun r u t H locs ht hvm hw hB _ _ hS => ?_)
  rw [hw.1]; have hB : zt_B G u t := hB; rw [hw.2] at hB; have hP := zt_B.P hB ht
  refine lv_if_eq (tgt := 107) hx hb dX2_keepAnswer_14 (by decide) (fun c6 => ?_) (fun c6 => ?_)
  · have hf := (if_pos c6).symm.trans hf
    exact W.vret hx hb hr (fun t ht hW => ⟨⟨_, rfl, (Option.some.inj hf), zt_go hE hP hS zt_id ht hW⟩, hS.F ht⟩) hS.2.2 dX2_keepAnswer_107
  · have hf := (if_neg c6).symm.trans hf
    refine lv_aload_n hx hb dX2_keepAnswer_17 rfl (lv_at hl 1 rfl) ?_
    refine va_get (D := zt_D G) (ci := 2) (v := .ref (zt_ad G 82)) (C := RX2) (T := TX2) (N := 11) hx hb hts inX2 hown hK hP 81 (zt_a2 (rfl : zt_kd 81 = 2)) rfl 0 (by decide) fl9 (fun _ h9 => h9) rfl dX2_keepAnswer_18 ?_
    refine lv_iload hx hb dX2_keepAnswer_21 (lv_at hl 0 rfl) ?_
    refine lv_iload_n hx hb dX2_keepAnswer_23 rfl (lv_at hl 2 rfl) ?_
    obtain ⟨g7, hf⟩ := zt_gd_some hf
    obtain ⟨σ8, hσ8, hf⟩ := zt_lt_some hf
    refine va_iast hx hb hK hP (zt_apart hE.1) hS 82 0 zt_a_82 rfl (zt_gI_in g7) dX2_keepAnswer_24 (fun H locs hP _ hS => ?_)
    rw [zt_p_82, ← hσ8] at hP
    refine lv_aload_n hx hb dX2_keepAnswer_25 rfl (lv_at hl 1 rfl) ?_
    refine va_get (D := zt_D G) (ci := 2) (v := .ref (zt_ad G 83)) (C := RX2) (T := TX2) (N := 11) hx hb hts inX2 hown hK hP 81 (zt_a2 (rfl : zt_kd 81 = 2)) rfl 1 (by decide) fl15 (fun _ h9 => h9) rfl dX2_keepAnswer_26 ?_
    refine lv_iload hx hb dX2_keepAnswer_29 (lv_at hl 0 rfl) ?_
    refine lv_iload_n hx hb dX2_keepAnswer_31 rfl (lv_at hl 3 rfl) ?_
    obtain ⟨g9, hf⟩ := zt_gd_some hf
    obtain ⟨σ10, hσ10, hf⟩ := zt_lt_some hf
    refine va_iast hx hb hK hP (zt_apart hE.1) hS 83 0 zt_a_83 rfl (zt_gI_in g9) dX2_keepAnswer_32 (fun H locs hP _ hS => ?_)
    rw [zt_p_83, ← hσ10] at hP
    refine lv_aload_n hx hb dX2_keepAnswer_33 rfl (lv_at hl 1 rfl) ?_
    refine va_get (D := zt_D G) (ci := 2) (v := .ref (zt_ad G 84)) (C := RX2) (T := TX2) (N := 11) hx hb hts inX2 hown hK hP 81 (zt_a2 (rfl : zt_kd 81 = 2)) rfl 2 (by decide) fl18 (fun _ h9 => h9) rfl dX2_keepAnswer_34 ?_
    refine lv_iload hx hb dX2_keepAnswer_37 (lv_at hl 0 rfl) ?_
    refine lv_aload_n hx hb dX2_keepAnswer_39 rfl (lv_at hl 4 rfl) ?_
    refine va_getN (D := zt_D G) (ci := 0) (v := .int (σ10 k3 0)) (C := RX0) (T := TX0) (N := 8) hx hb hts inX0 hown hK hP k3 (zt_a0 hk3) rfl 0 (by decide) fl57 (fun _ h9 => h9) rfl dX2_keepAnswer_40 ?_
    obtain ⟨g11, hf⟩ := zt_gd_some hf
    obtain ⟨σ12, hσ12, hf⟩ := zt_lt_some hf
    refine va_iast hx hb hK hP (zt_apart hE.1) hS 84 0 zt_a_84 rfl (zt_gI_in g11) dX2_keepAnswer_43 (fun H locs hP _ hS => ?_)
    rw [zt_p_84, ← hσ12] at hP
    refine lv_aload_n hx hb dX2_keepAnswer_44 rfl (lv_at hl 1 rfl) ?_
    refine va_get (D := zt_D G) (ci := 2) (v := .ref (zt_ad G 85)) (C := RX2) (T := TX2) (N := 11) hx hb hts inX2 hown hK hP 81 (zt_a2 (rfl : zt_kd 81 = 2)) rfl 3 (by decide) fl21 (fun _ h9 => h9) rfl dX2_keepAnswer_45 ?_
    refine lv_iload hx hb dX2_keepAnswer_48 (lv_at hl 0 rfl) ?_
    refine lv_aload_n hx hb dX2_keepAnswer_50 rfl (lv_at hl 4 rfl) ?_
    refine va_getN (D := zt_D G) (ci := 0) (v := .int (σ12 k3 1)) (C := RX0) (T := TX0) (N := 8) hx hb hts inX0 hown hK hP k3 (zt_a0 hk3) rfl 1 (by decide) fl60 (fun _ h9 => h9) rfl dX2_keepAnswer_51 ?_
    obtain ⟨g13, hf⟩ := zt_gd_some hf
    obtain ⟨σ14, hσ14, hf⟩ := zt_lt_some hf
    refine va_iast hx hb hK hP (zt_apart hE.1) hS 85 0 zt_a_85 rfl (zt_gI_in g13) dX2_keepAnswer_54 (fun H locs hP _ hS => ?_)
    rw [zt_p_85, ← hσ14] at hP
    refine lv_aload_n hx hb dX2_keepAnswer_55 rfl (lv_at hl 1 rfl) ?_
    refine va_get (D := zt_D G) (ci := 2) (v := .ref (zt_ad G 86)) (C := RX2) (T := TX2) (N := 11) hx hb hts inX2 hown hK hP 81 (zt_a2 (rfl : zt_kd 81 = 2)) rfl 4 (by decide) fl24 (fun _ h9 => h9) rfl dX2_keepAnswer_56 ?_
    refine lv_iload hx hb dX2_keepAnswer_59 (lv_at hl 0 rfl) ?_
    refine lv_aload_n hx hb dX2_keepAnswer_61 rfl (lv_at hl 4 rfl) ?_
    refine va_getN (D := zt_D G) (ci := 0) (v := .int (σ14 k3 2)) (C := RX0) (T := TX0) (N := 8) hx hb hts inX0 hown hK hP k3 (zt_a0 hk3) rfl 2 (by decide) fl63 (fun _ h9 => h9) rfl dX2_keepAnswer_62 ?_
    obtain ⟨g15, hf⟩ := zt_gd_some hf
    obtain ⟨σ16, hσ16, hf⟩ := zt_lt_some hf
    refine va_iast hx hb hK hP (zt_apart hE.1) hS 86 0 zt_a_86 rfl (zt_gI_in g15) dX2_keepAnswer_65 (fun H locs hP _ hS => ?_)
    rw [zt_p_86, ← hσ16] at hP
    refine lv_aload_n hx hb dX2_keepAnswer_66 rfl (lv_at hl 1 rfl) ?_
    refine va_get (D := zt_D G) (ci := 2) (v := .ref (zt_ad G 87)) (C := RX2) (T := TX2) (N := 11) hx hb hts inX2 hown hK hP 81 (zt_a2 (rfl : zt_kd 81 = 2)) rfl 5 (by decide) fl27 (fun _ h9 => h9) rfl dX2_keepAnswer_67 ?_
    refine lv_iload hx hb dX2_keepAnswer_70 (lv_at hl 0 rfl) ?_
    refine lv_aload_n hx hb dX2_keepAnswer_72 rfl (lv_at hl 4 rfl) ?_
    refine va_getN (D := zt_D G) (ci := 0) (v := .int (σ16 k3 3)) (C := RX0) (T := TX0) (N := 8) hx hb hts inX0 hown hK hP k3 (zt_a0 hk3) rfl 3 (by decide) fl66 (fun _ h9 => h9) rfl dX2_keepAnswer_73 ?_
    obtain ⟨g17, hf⟩ := zt_gd_some hf
    obtain ⟨σ18, hσ18, hf⟩ := zt_lt_some hf
    refine va_iast hx hb hK hP (zt_apart hE.1) hS 87 0 zt_a_87 rfl (zt_gI_in g17) dX2_keepAnswer_76 (fun H locs hP _ hS => ?_)
    rw [zt_p_87, ← hσ18] at hP
    refine lv_aload_n hx hb dX2_keepAnswer_77 rfl (lv_at hl 1 rfl) ?_
    refine va_get (D := zt_D G) (ci := 2) (v := .ref (zt_ad G 88)) (C := RX2) (T := TX2) (N := 11) hx hb hts inX2 hown hK hP 81 (zt_a2 (rfl : zt_kd 81 = 2)) rfl 6 (by decide) fl30 (fun _ h9 => h9) rfl dX2_keepAnswer_78 ?_
    refine lv_iload hx hb dX2_keepAnswer_81 (lv_at hl 0 rfl) ?_
    refine lv_iload hx hb dX2_keepAnswer_83 (lv_at hl 5 rfl) ?_
    obtain ⟨g19, hf⟩ := zt_gd_some hf
    obtain ⟨σ20, hσ20, hf⟩ := zt_lt_some hf
    refine va_iast hx hb hK hP (zt_apart hE.1) hS 88 0 zt_a_88 rfl (zt_gI_in g19) dX2_keepAnswer_85 (fun H locs hP _ hS => ?_)
    rw [zt_p_88, ← hσ20] at hP
    refine lv_aload_n hx hb dX2_keepAnswer_86 rfl (lv_at hl 1 rfl) ?_
    refine va_get (D := zt_D G) (ci := 2) (v := .ref (zt_ad G 89)) (C := RX2) (T := TX2) (N := 11) hx hb hts inX2 hown hK hP 81 (zt_a2 (rfl : zt_kd 81 = 2)) rfl 7 (by decide) fl33 (fun _ h9 => h9) rfl dX2_keepAnswer_87 ?_
    refine lv_iload hx hb dX2_keepAnswer_90 (lv_at hl 0 rfl) ?_
    refine lv_aload_n hx hb dX2_keepAnswer_92 rfl (lv_at hl 1 rfl) ?_
    refine va_get (D := zt_D G) (ci := 2) (v := .int (σ20 81 9)) (C := RX2) (T := TX2) (N := 11) hx hb hts inX2 hown hK hP 81 (zt_a2 (rfl : zt_kd 81 = 2)) rfl 9 (by decide) fl69 (fun _ h9 => h9) rfl dX2_keepAnswer_93 ?_
    obtain ⟨g21, hf⟩ := zt_gd_some hf
    obtain ⟨σ22, hσ22, hf⟩ := zt_lt_some hf
    refine va_iast hx hb hK hP (zt_apart hE.1) hS 89 0 zt_a_89 rfl (zt_gI_in g21) dX2_keepAnswer_96 (fun H locs hP _ hS => ?_)
    rw [zt_p_89, ← hσ22] at hP
    refine lv_aload_n hx hb dX2_keepAnswer_97 rfl (lv_at hl 1 rfl) ?_
    refine lv_dup hx hb dX2_keepAnswer_98 rfl ?_
    refine va_get (D := zt_D G) (ci := 2) (v := .int (σ22 81 9)) (C := RX2) (T := TX2) (N := 11) hx hb hts inX2 hown hK hP 81 (zt_a2 (rfl : zt_kd 81 = 2)) rfl 9 (by decide) fl69 (fun _ h9 => h9) rfl dX2_keepAnswer_99 ?_
    refine lv_iconst (v := 1) hx hb dX2_keepAnswer_102 (by decide) ?_
    refine lv_iadd hx hb dX2_keepAnswer_103 ?_
    obtain ⟨σ23, hσ23, hf⟩ := zt_lt_some hf
    refine va_put (D := zt_D G) (ci := 2) (v := .int ((σ22 81 9) + 1)) (ty := .int) (C := RX2) (T := TX2) (N := 11) hx hb hts inX2 tyX2 tyX2_ok nmX2 hown hK hP (zt_apart hE.1) hS 81 (zt_a2 (rfl : zt_kd 81 = 2)) rfl 9 (by decide) fl69 (fun _ h9 => h9) rfl (tyX2_ok 9 (by decide)) rfl rfl (Nat.le_of_ble_eq_true rfl) dX2_keepAnswer_104 (fun H locs hP _ hS => ?_)
    rw [zt_p2_9 (rfl : zt_kd 81 = 2), ← hσ23] at hP
    exact W.vret hx hb hr (fun t ht hW => ⟨⟨_, rfl, (Option.some.inj hf), zt_go hE hP hS zt_id ht hW⟩, hS.F ht⟩) hS.2.2 dX2_keepAnswer_107

theorem zh_X2_keepZone : yX2_keepZone.cls = RX2 ∧ yX2_keepZone.cls ≠ "java/lang/invoke/MethodHandle" ∧ yX2_keepZone.cls ≠ "java/lang/invoke/VarHandle" ∧ (parseMethodDescriptor yX2_keepZone.desc).map (fun d => d.parameters.length) = some 3 := by decide +kernel
set_option maxHeartbeats 4000000 in
set_option maxRecDepth 100000 in
theorem m_X2_keepZone (l : Launch) (G : zt_G) {σ : zt_St} {x1 : Int32} {x2 : Int32} {x3 : Int32} {σ1 : zt_St} (hf : f_X2_keepZone σ x1 x2 x3 = some σ1) : zt_Mv l G yX2_keepZone wsX2_keepZone 0 0 [.ref (zt_ad G 81), .int x1, .int x2, .int x3] σ σ1 := by
  refine Met.ofW (cc := cX2_keepZone) (maxL := 4) (ret := none) (by decide) rfl ?_
  intro p e s m args below meth c s₁ B hml hv
  obtain ⟨rfl, hBB⟩ := hv
  have hE := zt_B.env hBB; have hK := hE.2.1; have hP := hBB.2.1
  have hx := B.exec; have hb := B.bytes; have hr := B.returns; have hts := atoms_spec (ws := wsX2_keepZone) B.pre
  have hown : s.vm.findClass RX2 = some m.cls := findClass_of_methodNamed B.named
  have hlocks := B.notSynchronized
  have hS : va_S (zt_A G) s.heap s.heap [] := va_S.rf
  have hl := lv_entry ([.ref (zt_ad G 81), .int x1, .int x2, .int x3]) (n := 4) (Nat.le_of_ble_eq_true rfl)
  rw [lg_entry_eq]
  generalize (lg_sl ([.ref (zt_ad G 81), .int x1, .int x2, .int x3]) ++ List.replicate (4 - (lg_sl ([.ref (zt_ad G 81), .int x1, .int x2, .int x3])).length) Slot.unset).toArray = ls at hl ⊢
  have hl : lv_has ls 4 [(0, .ref (zt_ad G 81)), (1, .int x1), (2, .int x2), (3, .int x3)] := hl
  show W p l e (zt_R 0 0) s m ([.ref (zt_ad G 81), .int x1, .int x2, .int x3] : List Value).toArray below meth c s.heap [] 0 0 (MQ below (zt_Cv G σ1) ([.ref (zt_ad G 81), .int x1, .int x2, .int x3] : List Value).toArray s 0 0 (zt_A G)) (F0 m 0 ls [])
  have fl36 := hts (.fieldLink RX2 36 "ZoneTree$Kept" "zoneEnds" "[I") (List.mem_cons_of_mem _ (List.mem_append_left _ (List.mem_of_getElem? (i := 0) rfl)))
  have inX2 : ∀ w ∈ wsX20, w ∈ wsX2_keepZone := fun w h => (List.mem_cons_of_mem _ (List.mem_append_right _ h))
  unfold f_X2_keepZone at hf
  refine lv_iload_n hx hb dX2_keepZone_0 rfl (lv_at hl 1 rfl) ?_
  refine lv_if_lt (tgt := 22) hx hb dX2_keepZone_1 (by decide) (fun c1 => ?_) (fun c1 => ?_)
  · have hf := (if_pos c1).symm.trans hf
    exact W.vret hx hb hr (fun t ht hW => ⟨⟨_, rfl, (Option.some.inj hf), zt_go hE hP hS zt_id ht hW⟩, hS.F ht⟩) hS.2.2 dX2_keepZone_22
  · have hf := (if_neg c1).symm.trans hf
    refine lv_iload_n hx hb dX2_keepZone_4 rfl (lv_at hl 1 rfl) ?_
    refine lv_aload_n hx hb dX2_keepZone_5 rfl (lv_at hl 0 rfl) ?_
    refine va_get (D := zt_D G) (ci := 2) (v := .ref (zt_ad G 90)) (C := RX2) (T := TX2) (N := 11) hx hb hts inX2 hown hK hP 81 (zt_a2 (rfl : zt_kd 81 = 2)) rfl 10 (by decide) fl36 (fun _ h9 => h9) rfl dX2_keepZone_6 ?_
    refine va_alen hx hb hK hP 90 0 zt_a_90 rfl (v := 6) (show Int32.ofNat 6 = 6 by decide +kernel) dX2_keepZone_9 ?_
    refine lv_icmp_ge (tgt := 22) hx hb dX2_keepZone_10 (by decide) (fun c2 => ?_) (fun c2 => ?_)
    · have hf := (if_pos c2).symm.trans hf
      exact W.vret hx hb hr (fun t ht hW => ⟨⟨_, rfl, (Option.some.inj hf), zt_go hE hP hS zt_id ht hW⟩, hS.F ht⟩) hS.2.2 dX2_keepZone_22
    · have hf := (if_neg c2).symm.trans hf
      refine lv_aload_n hx hb dX2_keepZone_13 rfl (lv_at hl 0 rfl) ?_
      refine va_get (D := zt_D G) (ci := 2) (v := .ref (zt_ad G 90)) (C := RX2) (T := TX2) (N := 11) hx hb hts inX2 hown hK hP 81 (zt_a2 (rfl : zt_kd 81 = 2)) rfl 10 (by decide) fl36 (fun _ h9 => h9) rfl dX2_keepZone_14 ?_
      refine lv_iload_n hx hb dX2_keepZone_17 rfl (lv_at hl 1 rfl) ?_
      refine lv_iload_n hx hb dX2_keepZone_18 rfl (lv_at hl 3 rfl) ?_
      refine lv_iload_n hx hb dX2_keepZone_19 rfl (lv_at hl 2 rfl) ?_
      refine lv_iadd hx hb dX2_keepZone_20 ?_
      obtain ⟨g3, hf⟩ := zt_gd_some hf
      obtain ⟨σ4, hσ4, hf⟩ := zt_lt_some hf
      refine va_iast hx hb hK hP (zt_apart hE.1) hS 90 0 zt_a_90 rfl (zt_gI_in g3) dX2_keepZone_21 (fun H locs hP _ hS => ?_)
      rw [zt_p_90, ← hσ4] at hP
      exact W.vret hx hb hr (fun t ht hW => ⟨⟨_, rfl, (Option.some.inj hf), zt_go hE hP hS zt_id ht hW⟩, hS.F ht⟩) hS.2.2 dX2_keepZone_22

theorem zh_X2_isZoneHolding : yX2_isZoneHolding.cls = RX2 ∧ yX2_isZoneHolding.cls ≠ "java/lang/invoke/MethodHandle" ∧ yX2_isZoneHolding.cls ≠ "java/lang/invoke/VarHandle" ∧ (parseMethodDescriptor yX2_isZoneHolding.desc).map (fun d => d.parameters.length) = some 2 := by decide +kernel
set_option maxHeartbeats 4000000 in
set_option maxRecDepth 100000 in
theorem m_X2_isZoneHolding (l : Launch) (G : zt_G) {σ : zt_St} {x1 : Int32} {x2 : Int32} {r : Int32} (hf : f_X2_isZoneHolding σ x1 x2 = some r) : zt_Mi l G yX2_isZoneHolding wsX2_isZoneHolding 0 0 [.ref (zt_ad G 81), .int x1, .int x2] σ r σ := by
  refine Met.ofW (cc := cX2_isZoneHolding) (maxL := 3) (ret := (some .boolean)) (by decide) rfl ?_
  intro p e s m args below meth c s₁ B hml hv
  obtain ⟨rfl, hBB⟩ := hv
  have hE := zt_B.env hBB; have hK := hE.2.1; have hP := hBB.2.1
  have hx := B.exec; have hb := B.bytes; have hr := B.returns; have hts := atoms_spec (ws := wsX2_isZoneHolding) B.pre
  have hown : s.vm.findClass RX2 = some m.cls := findClass_of_methodNamed B.named
  have hlocks := B.notSynchronized
  have hS : va_S (zt_A G) s.heap s.heap [] := va_S.rf
  have hl := lv_entry ([.ref (zt_ad G 81), .int x1, .int x2]) (n := 3) (Nat.le_of_ble_eq_true rfl)
  rw [lg_entry_eq]
  generalize (lg_sl ([.ref (zt_ad G 81), .int x1, .int x2]) ++ List.replicate (3 - (lg_sl ([.ref (zt_ad G 81), .int x1, .int x2])).length) Slot.unset).toArray = ls at hl ⊢
  have hl : lv_has ls 3 [(0, .ref (zt_ad G 81)), (1, .int x1), (2, .int x2)] := hl
  show W p l e (zt_R 0 0) s m ([.ref (zt_ad G 81), .int x1, .int x2] : List Value).toArray below meth c s.heap [] 0 0 (MQ below (zt_Ci G r σ) ([.ref (zt_ad G 81), .int x1, .int x2] : List Value).toArray s 0 0 (zt_A G)) (F0 m 0 ls [])
  have fl36 := hts (.fieldLink RX2 36 "ZoneTree$Kept" "zoneEnds" "[I") (List.mem_cons_of_mem _ (List.mem_append_left _ (List.mem_of_getElem? (i := 0) rfl)))
  have inX2 : ∀ w ∈ wsX20, w ∈ wsX2_isZoneHolding := fun w h => (List.mem_cons_of_mem _ (List.mem_append_right _ h))
  unfold f_X2_isZoneHolding at hf
  refine lv_iload_n hx hb dX2_isZoneHolding_0 rfl (lv_at hl 1 rfl) ?_
  refine lv_if_lt (tgt := 27) hx hb dX2_isZoneHolding_1 (by decide) (fun c1 => ?_) (fun c1 => ?_)
  · have hf := (if_pos c1).symm.trans hf
    refine lv_iconst (v := 0) hx hb dX2_isZoneHolding_27 (by decide) ?_
    exact W.zret hx hb hr (zt_bn (by decide)).1 (fun t ht hW => ⟨⟨_, _, rfl, ⟨Option.some.inj hf, rfl⟩, zt_go hE hP hS zt_id ht hW⟩, hS.F ht⟩) hS.2.2 dX2_isZoneHolding_28
  · have hf := (if_neg c1).symm.trans hf
    refine lv_iload_n hx hb dX2_isZoneHolding_4 rfl (lv_at hl 1 rfl) ?_
    refine lv_aload_n hx hb dX2_isZoneHolding_5 rfl (lv_at hl 0 rfl) ?_
    refine va_get (D := zt_D G) (ci := 2) (v := .ref (zt_ad G 90)) (C := RX2) (T := TX2) (N := 11) hx hb hts inX2 hown hK hP 81 (zt_a2 (rfl : zt_kd 81 = 2)) rfl 10 (by decide) fl36 (fun _ h9 => h9) rfl dX2_isZoneHolding_6 ?_
    refine va_alen hx hb hK hP 90 0 zt_a_90 rfl (v := 6) (show Int32.ofNat 6 = 6 by decide +kernel) dX2_isZoneHolding_9 ?_
    refine lv_icmp_ge (tgt := 27) hx hb dX2_isZoneHolding_10 (by decide) (fun c2 => ?_) (fun c2 => ?_)
    · have hf := (if_pos c2).symm.trans hf
      refine lv_iconst (v := 0) hx hb dX2_isZoneHolding_27 (by decide) ?_
      exact W.zret hx hb hr (zt_bn (by decide)).1 (fun t ht hW => ⟨⟨_, _, rfl, ⟨Option.some.inj hf, rfl⟩, zt_go hE hP hS zt_id ht hW⟩, hS.F ht⟩) hS.2.2 dX2_isZoneHolding_28
    · have hf := (if_neg c2).symm.trans hf
      refine lv_iload_n hx hb dX2_isZoneHolding_13 rfl (lv_at hl 2 rfl) ?_
      refine lv_aload_n hx hb dX2_isZoneHolding_14 rfl (lv_at hl 0 rfl) ?_
      refine va_get (D := zt_D G) (ci := 2) (v := .ref (zt_ad G 90)) (C := RX2) (T := TX2) (N := 11) hx hb hts inX2 hown hK hP 81 (zt_a2 (rfl : zt_kd 81 = 2)) rfl 10 (by decide) fl36 (fun _ h9 => h9) rfl dX2_isZoneHolding_15 ?_
      refine lv_iload_n hx hb dX2_isZoneHolding_18 rfl (lv_at hl 1 rfl) ?_
      obtain ⟨g3, hf⟩ := zt_gd_some hf
      refine va_iald hx hb hK hP 90 0 zt_a_90 rfl (zt_gI_in g3) dX2_isZoneHolding_19 ?_
      refine lv_icmp_ge (tgt := 27) hx hb dX2_isZoneHolding_20 (by decide) (fun c4 => ?_) (fun c4 => ?_)
      · have hf := (if_pos c4).symm.trans hf
        refine lv_iconst (v := 0) hx hb dX2_isZoneHolding_27 (by decide) ?_
        exact W.zret hx hb hr (zt_bn (by decide)).1 (fun t ht hW => ⟨⟨_, _, rfl, ⟨Option.some.inj hf, rfl⟩, zt_go hE hP hS zt_id ht hW⟩, hS.F ht⟩) hS.2.2 dX2_isZoneHolding_28
      · have hf := (if_neg c4).symm.trans hf
        refine lv_iconst (v := 1) hx hb dX2_isZoneHolding_23 (by decide) ?_
        refine lv_goto (tgt := 28) hx hb dX2_isZoneHolding_24 (by decide) ?_
        exact W.zret hx hb hr (zt_bn (by decide)).1 (fun t ht hW => ⟨⟨_, _, rfl, ⟨Option.some.inj hf, rfl⟩, zt_go hE hP hS zt_id ht hW⟩, hS.F ht⟩) hS.2.2 dX2_isZoneHolding_28

theorem zh_X2_clear : yX2_clear.cls = RX2 ∧ yX2_clear.cls ≠ "java/lang/invoke/MethodHandle" ∧ yX2_clear.cls ≠ "java/lang/invoke/VarHandle" ∧ (parseMethodDescriptor yX2_clear.desc).map (fun d => d.parameters.length) = some 1 := by decide +kernel
set_option maxHeartbeats 4000000 in
set_option maxRecDepth 100000 in
theorem m_X2_clear (l : Launch) (G : zt_G) {σ : zt_St} {x1 : Int32} {r : Int32} {σ1 : zt_St} (hf : f_X2_clear σ x1 = some (r, σ1)) : zt_Mi l G yX2_clear wsX2_clear 2 43 [.ref (zt_ad G 81), .int x1] σ r σ1 := by
  refine Met.ofW (cc := cX2_clear) (maxL := 4) (ret := (some .int)) (by decide) rfl ?_
  intro p e s m args below meth c s₁ B hml hv
  obtain ⟨rfl, hBB⟩ := hv
  have hE := zt_B.env hBB; have hK := hE.2.1; have hP := hBB.2.1
  have hx := B.exec; have hb := B.bytes; have hr := B.returns; have hts := atoms_spec (ws := wsX2_clear) B.pre
  have hown : s.vm.findClass RX2 = some m.cls := findClass_of_methodNamed B.named
  have hlocks := B.notSynchronized
  have hS : va_S (zt_A G) s.heap s.heap [] := va_S.rf
  have hl := lv_entry ([.ref (zt_ad G 81), .int x1]) (n := 4) (Nat.le_of_ble_eq_true rfl)
  rw [lg_entry_eq]
  generalize (lg_sl ([.ref (zt_ad G 81), .int x1]) ++ List.replicate (4 - (lg_sl ([.ref (zt_ad G 81), .int x1])).length) Slot.unset).toArray = ls at hl ⊢
  have hl : lv_has ls 4 [(0, .ref (zt_ad G 81)), (1, .int x1)] := hl
  show W p l e (zt_R 2 43) s m ([.ref (zt_ad G 81), .int x1] : List Value).toArray below meth c s.heap [] 0 0 (MQ below (zt_Ci G r σ1) ([.ref (zt_ad G 81), .int x1] : List Value).toArray s 0 0 (zt_A G)) (F0 m 0 ls [])
  have fl36 := hts (.fieldLink RX2 36 "ZoneTree$Kept" "zoneEnds" "[I") (List.mem_cons_of_mem _ (List.mem_append_left _ (List.mem_of_getElem? (i := 1) rfl)))
  have fl39 := hts (.fieldLink RX2 39 "ZoneTree$Kept" "count" "I") (List.mem_cons_of_mem _ (List.mem_append_left _ (List.mem_of_getElem? (i := 0) rfl)))
  have inX2 : ∀ w ∈ wsX20, w ∈ wsX2_clear := fun w h => (List.mem_cons_of_mem _ (List.mem_append_right _ h))
  have B37 : ∀ (n : Nat), ∀ (σ : zt_St) (u2 : Int32) (u3 : Int32) (H : Heap) (locs : List Loc) (ls : Array Slot), f_X2_clear_37 n σ u2 u3 = some (r, σ1) → va_P (zt_D G) vwCl (zt_ww G σ) H → va_S (zt_A G) s.heap H locs → lv_has ls 4 [(0, .ref (zt_ad G 81)), (2, .int u2), (3, .int u3)] → W p l e (zt_R 2 43) s m ([.ref (zt_ad G 81), .int x1] : List Value).toArray below meth c H locs 0 0 (MQ below (zt_Ci G r σ1) ([.ref (zt_ad G 81), .int x1] : List Value).toArray s 0 0 (zt_A G)) (F0 m 37 ls []) := by
    intro n
    induction n with
    | zero => intro σ u2 u3 H locs ls hf; exact nomatch hf
    | succ n hrc37 =>
      intro σ u2 u3 H locs ls hf hP hS hl
      generalize hrcg : f_X2_clear_37 n = rc37 at hrc37
      have hf : f_X2_clear_37b rc37 σ u2 u3 = some (r, σ1) := by rw [← hrcg]; exact hf
      unfold f_X2_clear_37b at hf
      refine lv_iload_n hx hb dX2_clear_37 rfl (lv_at hl 2 rfl) ?_
      refine lv_aload_n hx hb dX2_clear_38 rfl (lv_at hl 0 rfl) ?_
      refine va_get (D := zt_D G) (ci := 2) (v := .ref (zt_ad G 90)) (C := RX2) (T := TX2) (N := 11) hx hb hts inX2 hown hK hP 81 (zt_a2 (rfl : zt_kd 81 = 2)) rfl 10 (by decide) fl36 (fun _ h9 => h9) rfl dX2_clear_39 ?_
      refine va_alen hx hb hK hP 90 0 zt_a_90 rfl (v := 6) (show Int32.ofNat 6 = 6 by decide +kernel) dX2_clear_42 ?_
      refine lv_icmp_ge (tgt := 59) hx hb dX2_clear_43 (by decide) (fun c6 => ?_) (fun c6 => ?_)
      · have hf := (if_pos c6).symm.trans hf
        refine lv_iload_n hx hb dX2_clear_59 rfl (lv_at hl 1 rfl) ?_
        exact W.iret hx hb hr (fun t ht hW => ⟨⟨_, _, rfl, (Prod.mk.inj (Option.some.inj hf)), zt_go hE hP hS zt_id ht hW⟩, hS.F ht⟩) hS.2.2 dX2_clear_60
      · have hf := (if_neg c6).symm.trans hf
        refine lv_aload_n hx hb dX2_clear_46 rfl (lv_at hl 0 rfl) ?_
        refine va_get (D := zt_D G) (ci := 2) (v := .ref (zt_ad G 90)) (C := RX2) (T := TX2) (N := 11) hx hb hts inX2 hown hK hP 81 (zt_a2 (rfl : zt_kd 81 = 2)) rfl 10 (by decide) fl36 (fun _ h9 => h9) rfl dX2_clear_47 ?_
        refine lv_iload_n hx hb dX2_clear_50 rfl (lv_at hl 2 rfl) ?_
        refine lv_iconst (v := 0) hx hb dX2_clear_51 (by decide) ?_
        obtain ⟨g7, hf⟩ := zt_gd_some hf
        obtain ⟨σ8, hσ8, hf⟩ := zt_lt_some hf
        refine va_iast hx hb hK hP (zt_apart hE.1) hS 90 0 zt_a_90 rfl (zt_gI_in g7) dX2_clear_52 (fun H locs hP _ hS => ?_)
        rw [zt_p_90, ← hσ8] at hP
        refine lv_iinc (v := (u3 + 1)) (lv' := [(3, .int (u3 + 1)), (0, .ref (zt_ad G 81)), (2, .int u2)]) hx hb dX2_clear_53 hl (k := 2) rfl rfl (by decide) rfl (fun ls hl => ?_)
        refine lv_goto (tgt := 37) hx hb dX2_clear_56 (by decide) ?_
        exact hrc37 σ8 u2 (u3 + 1) _ _ _ hf hP hS (lv_sub hl [1, 2, 0] rfl)
  have B24 : ∀ (rc4 : zt_St → Int32 → Int32 → Int32 → Option (Int32 × zt_St)) (hrc4 : ∀ (σ : zt_St) (u1 : Int32) (u2 : Int32) (u3 : Int32) (H : Heap) (locs : List Loc) (ls : Array Slot), rc4 σ u1 u2 u3 = some (r, σ1) → va_P (zt_D G) vwCl (zt_ww G σ) H → va_S (zt_A G) s.heap H locs → lv_has ls 4 [(0, .ref (zt_ad G 81)), (1, .int u1), (2, .int u2), (3, .int u3)] → W p l e (zt_R 2 43) s m ([.ref (zt_ad G 81), .int x1] : List Value).toArray below meth c H locs 0 0 (MQ below (zt_Ci G r σ1) ([.ref (zt_ad G 81), .int x1] : List Value).toArray s 0 0 (zt_A G)) (F0 m 4 ls [])), ∀ (σ : zt_St) (u1 : Int32) (u2 : Int32) (u3 : Int32) (H : Heap) (locs : List Loc) (ls : Array Slot), f_X2_clear_24 rc4 σ u1 u2 u3 = some (r, σ1) → va_P (zt_D G) vwCl (zt_ww G σ) H → va_S (zt_A G) s.heap H locs → lv_has ls 4 [(0, .ref (zt_ad G 81)), (1, .int u1), (2, .int u2), (3, .int u3)] → W p l e (zt_R 2 43) s m ([.ref (zt_ad G 81), .int x1] : List Value).toArray below meth c H locs 0 0 (MQ below (zt_Ci G r σ1) ([.ref (zt_ad G 81), .int x1] : List Value).toArray s 0 0 (zt_A G)) (F0 m 24 ls []) := by
    intro rc4 hrc4 σ u1 u2 u3 H locs ls hf hP hS hl
    unfold f_X2_clear_24 at hf
    refine lv_iinc (v := (u3 + 1)) (lv' := [(3, .int (u3 + 1)), (0, .ref (zt_ad G 81)), (1, .int u1), (2, .int u2)]) hx hb dX2_clear_24 hl (k := 3) rfl rfl (by decide) rfl (fun ls hl => ?_)
    refine lv_goto (tgt := 4) hx hb dX2_clear_27 (by decide) ?_
    exact hrc4 σ u1 u2 (u3 + 1) _ _ _ hf hP hS (lv_sub hl [1, 2, 3, 0] rfl)
  have B4 : ∀ (n : Nat), ∀ (σ : zt_St) (u1 : Int32) (u2 : Int32) (u3 : Int32) (H : Heap) (locs : List Loc) (ls : Array Slot), f_X2_clear_4 n σ u1 u2 u3 = some (r, σ1) → va_P (zt_D G) vwCl (zt_ww G σ) H → va_S (zt_A G) s.heap H locs → lv_has ls 4 [(0, .ref (zt_ad G 81)), (1, .int u1), (2, .int u2), (3, .int u3)] → W p l e (zt_R 2 43) s m ([.ref (zt_ad G 81), .int x1] : List Value).toArray below meth c H locs 0 0 (MQ below (zt_Ci G r σ1) ([.ref (zt_ad G 81), .int x1] : List Value).toArray s 0 0 (zt_A G)) (F0 m 4 ls []) := by
    intro n
    induction n with
    | zero => intro σ u1 u2 u3 H locs ls hf; exact nomatch hf
    | succ n hrc4 =>
      intro σ u1 u2 u3 H locs ls hf hP hS hl
      generalize hrcg : f_X2_clear_4 n = rc4 at hrc4
      have hf : f_X2_clear_4b rc4 σ u1 u2 u3 = some (r, σ1) := by rw [← hrcg]; exact hf
      unfold f_X2_clear_4b at hf
      refine lv_iload_n hx hb dX2_clear_4 rfl (lv_at hl 3 rfl) ?_
      refine lv_aload_n hx hb dX2_clear_5 rfl (lv_at hl 0 rfl) ?_
      refine va_get (D := zt_D G) (ci := 2) (v := .int (σ 81 8)) (C := RX2) (T := TX2) (N := 11) hx hb hts inX2 hown hK hP 81 (zt_a2 (rfl : zt_kd 81 = 2)) rfl 8 (by decide) fl39 (fun _ h9 => h9) rfl dX2_clear_6 ?_
      refine lv_icmp_ge (tgt := 30) hx hb dX2_clear_9 (by decide) (fun c1 => ?_) (fun c1 => ?_)
      · have hf := (if_pos c1).symm.trans hf
        refine lv_aload_n hx hb dX2_clear_30 rfl (lv_at hl 0 rfl) ?_
        refine lv_iconst (v := 0) hx hb dX2_clear_31 (by decide) ?_
        obtain ⟨σ2, hσ2, hf⟩ := zt_lt_some hf
        refine va_put (D := zt_D G) (ci := 2) (v := .int 0) (ty := .int) (C := RX2) (T := TX2) (N := 11) hx hb hts inX2 tyX2 tyX2_ok nmX2 hown hK hP (zt_apart hE.1) hS 81 (zt_a2 (rfl : zt_kd 81 = 2)) rfl 8 (by decide) fl39 (fun _ h9 => h9) rfl (tyX2_ok 8 (by decide)) rfl rfl (Nat.le_of_ble_eq_true rfl) dX2_clear_32 (fun H locs hP _ hS => ?_)
        rw [zt_p2_8 (rfl : zt_kd 81 = 2), ← hσ2] at hP
        refine lv_iconst (v := 0) hx hb dX2_clear_35 (by decide) ?_
        refine lv_istore_n (lv' := [(3, .int 0), (0, .ref (zt_ad G 81)), (1, .int u1), (2, .int u2)]) hx hb dX2_clear_36 rfl hl (by decide) rfl (fun ls hl => ?_)
        exact B37 zt_FU σ2 u2 0 _ _ _ hf hP hS (lv_sub hl [1, 3, 0] rfl)
      · have hf := (if_neg c1).symm.trans hf
        refine lv_aload_n hx hb dX2_clear_12 rfl (lv_at hl 0 rfl) ?_
        refine lv_iload_n hx hb dX2_clear_13 rfl (lv_at hl 3 rfl) ?_
        refine lv_iload_n hx hb dX2_clear_14 rfl (lv_at hl 1 rfl) ?_
        obtain ⟨v3, hvv3, hf⟩ := zt_bd_some hf
        refine va_calli (va_runV (As := [.int u3, .int u1]) (rest := []) ⟨hx, hb, hml, hown, hts⟩ (m_X2_isHolding l G (σ := σ) hvv3) (cwV 2 hts gX2_clear_X2_isHolding rfl rfl rfl zh_X2_isHolding ⟨Nat.le_of_ble_eq_true rfl, Nat.le_of_ble_eq_true rfl⟩) ⟨zt_blind, va_recv hK hP (ci := 2) (q0 := 81) rfl (zt_a2 (rfl : zt_kd 81 = 2)), fun U hU hW => ⟨rfl, zt_go hE hP hS zt_id hU hW⟩⟩ rfl rfl hl.1 rfl (lv_room (Nat.le_of_ble_eq_true rfl)) dX2_clear_15 ⟨Nat.zero_le _, Nat.zero_le _⟩) hS (fun _ _ h => h) (fun _ h => h) (fun r u t H locs ht hvm hw hB _ _ hS => ?_)
        rw [hw.1]; have hB : zt_B G u t := hB; rw [hw.2] at hB; have hP := zt_B.P hB ht
        refine lv_if_eq (tgt := 24) hx hb dX2_clear_18 (by decide) (fun c5 => ?_) (fun c5 => ?_)
        · have hf := (if_pos c5).symm.trans hf
          exact B24 rc4 hrc4 σ u1 u2 u3 _ _ _ hf hP hS (lv_sub hl [0, 1, 2, 3] rfl)
        · have hf := (if_neg c5).symm.trans hf
          refine lv_iinc (v := (u2 + 1)) (lv' := [(2, .int (u2 + 1)), (0, .ref (zt_ad G 81)), (1, .int u1), (3, .int u3)]) hx hb dX2_clear_21 hl (k := 2) rfl rfl (by decide) rfl (fun ls hl => ?_)
          exact B24 rc4 hrc4 σ u1 (u2 + 1) u3 _ _ _ hf hP hS (lv_sub hl [1, 2, 0, 3] rfl)
  unfold f_X2_clear at hf
  refine lv_iconst (v := 0) hx hb dX2_clear_0 (by decide) ?_
  refine lv_istore_n (lv' := [(2, .int 0), (0, .ref (zt_ad G 81)), (1, .int x1)]) hx hb dX2_clear_1 rfl hl (by decide) rfl (fun ls hl => ?_)
  refine lv_iconst (v := 0) hx hb dX2_clear_2 (by decide) ?_
  refine lv_istore_n (lv' := [(3, .int 0), (2, .int 0), (0, .ref (zt_ad G 81)), (1, .int x1)]) hx hb dX2_clear_3 rfl hl (by decide) rfl (fun ls hl => ?_)
  exact B4 zt_FU σ x1 0 0 _ _ _ hf hP hS (lv_sub hl [2, 3, 1, 0] rfl)

theorem zh_X5_begin : yX5_begin.cls = RX5 ∧ yX5_begin.cls ≠ "java/lang/invoke/MethodHandle" ∧ yX5_begin.cls ≠ "java/lang/invoke/VarHandle" ∧ (parseMethodDescriptor yX5_begin.desc).map (fun d => d.parameters.length) = some 3 := by decide +kernel
set_option maxHeartbeats 4000000 in
set_option maxRecDepth 100000 in
theorem m_X5_begin (l : Launch) (G : zt_G) {σ : zt_St} {x1 : Int32} {x2 : Int32} {x3 : Int32} {σ1 : zt_St} (hf : f_X5_begin σ x1 x2 x3 = some σ1) : zt_Mv l G yX5_begin wsX5_begin 0 0 [.ref (zt_ad G 80), .int x1, .int x2, .int x3] σ σ1 := by
  refine Met.ofW (cc := cX5_begin) (maxL := 4) (ret := none) (by decide) rfl ?_
  intro p e s m args below meth c s₁ B hml hv
  obtain ⟨rfl, hBB⟩ := hv
  have hE := zt_B.env hBB; have hK := hE.2.1; have hP := hBB.2.1
  have hx := B.exec; have hb := B.bytes; have hr := B.returns; have hts := atoms_spec (ws := wsX5_begin) B.pre
  have hown : s.vm.findClass RX5 = some m.cls := findClass_of_methodNamed B.named
  have hlocks := B.notSynchronized
  have hS : va_S (zt_A G) s.heap s.heap [] := va_S.rf
  have hl := lv_entry ([.ref (zt_ad G 80), .int x1, .int x2, .int x3]) (n := 4) (Nat.le_of_ble_eq_true rfl)
  rw [lg_entry_eq]
  generalize (lg_sl ([.ref (zt_ad G 80), .int x1, .int x2, .int x3]) ++ List.replicate (4 - (lg_sl ([.ref (zt_ad G 80), .int x1, .int x2, .int x3])).length) Slot.unset).toArray = ls at hl ⊢
  have hl : lv_has ls 4 [(0, .ref (zt_ad G 80)), (1, .int x1), (2, .int x2), (3, .int x3)] := hl
  show W p l e (zt_R 0 0) s m ([.ref (zt_ad G 80), .int x1, .int x2, .int x3] : List Value).toArray below meth c s.heap [] 0 0 (MQ below (zt_Cv G σ1) ([.ref (zt_ad G 80), .int x1, .int x2, .int x3] : List Value).toArray s 0 0 (zt_A G)) (F0 m 0 ls [])
  have fl46 := hts (.fieldLink RX5 46 "ZoneTree$Resolver" "life" "I") (List.mem_cons_of_mem _ (List.mem_append_left _ (List.mem_of_getElem? (i := 4) rfl)))
  have fl56 := hts (.fieldLink RX5 56 "ZoneTree$Resolver" "worstTrust" "I") (List.mem_cons_of_mem _ (List.mem_append_left _ (List.mem_of_getElem? (i := 9) rfl)))
  have fl59 := hts (.fieldLink RX5 59 "ZoneTree$Resolver" "zoneTrust" "I") (List.mem_cons_of_mem _ (List.mem_append_left _ (List.mem_of_getElem? (i := 8) rfl)))
  have fl65 := hts (.fieldLink RX5 65 "ZoneTree$Resolver" "ledTimes" "I") (List.mem_cons_of_mem _ (List.mem_append_left _ (List.mem_of_getElem? (i := 6) rfl)))
  have fl71 := hts (.fieldLink RX5 71 "ZoneTree$Resolver" "name" "I") (List.mem_cons_of_mem _ (List.mem_append_left _ (List.mem_of_getElem? (i := 0) rfl)))
  have fl72 := hts (.fieldLink RX5 72 "ZoneTree$Resolver" "zone" "I") (List.mem_cons_of_mem _ (List.mem_append_left _ (List.mem_of_getElem? (i := 3) rfl)))
  have fl79 := hts (.fieldLink RX5 79 "ZoneTree$Resolver" "sort" "I") (List.mem_cons_of_mem _ (List.mem_append_left _ (List.mem_of_getElem? (i := 1) rfl)))
  have fl82 := hts (.fieldLink RX5 82 "ZoneTree$Resolver" "isAnew" "Z") (List.mem_cons_of_mem _ (List.mem_append_left _ (List.mem_of_getElem? (i := 2) rfl)))
  have fl86 := hts (.fieldLink RX5 86 "ZoneTree$Resolver" "questions" "I") (List.mem_cons_of_mem _ (List.mem_append_left _ (List.mem_of_getElem? (i := 5) rfl)))
  have fl89 := hts (.fieldLink RX5 89 "ZoneTree$Resolver" "isOld" "Z") (List.mem_cons_of_mem _ (List.mem_append_left _ (List.mem_of_getElem? (i := 7) rfl)))
  have inX5 : ∀ w ∈ wsX50, w ∈ wsX5_begin := fun w h => (List.mem_cons_of_mem _ (List.mem_append_right _ h))
  unfold f_X5_begin at hf
  refine lv_aload_n hx hb dX5_begin_0 rfl (lv_at hl 0 rfl) ?_
  refine lv_iload_n hx hb dX5_begin_1 rfl (lv_at hl 1 rfl) ?_
  obtain ⟨σ1, hσ1, hf⟩ := zt_lt_some hf
  refine va_put (D := zt_D G) (ci := 4) (v := .int x1) (ty := .int) (C := RX5) (T := TX5) (N := 15) hx hb hts inX5 tyX5 tyX5_ok nmX5 hown hK hP (zt_apart hE.1) hS 80 (zt_a4 (rfl : zt_kd 80 = 4)) rfl 6 (by decide) fl71 (fun _ h9 => h9) rfl (tyX5_ok 6 (by decide)) rfl rfl (Nat.le_of_ble_eq_true rfl) dX5_begin_2 (fun H locs hP _ hS => ?_)
  rw [zt_p4_6 (rfl : zt_kd 80 = 4), ← hσ1] at hP
  refine lv_aload_n hx hb dX5_begin_5 rfl (lv_at hl 0 rfl) ?_
  refine lv_iload_n hx hb dX5_begin_6 rfl (lv_at hl 2 rfl) ?_
  obtain ⟨σ2, hσ2, hf⟩ := zt_lt_some hf
  refine va_put (D := zt_D G) (ci := 4) (v := .int x2) (ty := .int) (C := RX5) (T := TX5) (N := 15) hx hb hts inX5 tyX5 tyX5_ok nmX5 hown hK hP (zt_apart hE.1) hS 80 (zt_a4 (rfl : zt_kd 80 = 4)) rfl 7 (by decide) fl79 (fun _ h9 => h9) rfl (tyX5_ok 7 (by decide)) rfl rfl (Nat.le_of_ble_eq_true rfl) dX5_begin_7 (fun H locs hP _ hS => ?_)
  rw [zt_p4_7 (rfl : zt_kd 80 = 4), ← hσ2] at hP
  refine lv_aload_n hx hb dX5_begin_10 rfl (lv_at hl 0 rfl) ?_
  refine lv_iload_n hx hb dX5_begin_11 rfl (lv_at hl 3 rfl) ?_
  obtain ⟨g3, hf⟩ := zt_gd_some hf
  obtain ⟨σ4, hσ4, hf⟩ := zt_lt_some hf
  refine va_put (D := zt_D G) (ci := 4) (v := .int x3) (ty := .boolean) (C := RX5) (T := TX5) (N := 15) hx hb hts inX5 tyX5 tyX5_ok nmX5 hown hK hP (zt_apart hE.1) hS 80 (zt_a4 (rfl : zt_kd 80 = 4)) rfl 5 (by decide) fl82 (fun _ h9 => h9) rfl (tyX5_ok 5 (by decide)) (zt_bn g3).1 (zt_bn g3).2 (Nat.le_of_ble_eq_true rfl) dX5_begin_12 (fun H locs hP _ hS => ?_)
  rw [zt_p4_5 (rfl : zt_kd 80 = 4), ← hσ4] at hP
  refine lv_aload_n hx hb dX5_begin_15 rfl (lv_at hl 0 rfl) ?_
  refine lv_iconst (v := (-1)) hx hb dX5_begin_16 (by decide) ?_
  obtain ⟨σ5, hσ5, hf⟩ := zt_lt_some hf
  refine va_put (D := zt_D G) (ci := 4) (v := .int (-1)) (ty := .int) (C := RX5) (T := TX5) (N := 15) hx hb hts inX5 tyX5 tyX5_ok nmX5 hown hK hP (zt_apart hE.1) hS 80 (zt_a4 (rfl : zt_kd 80 = 4)) rfl 8 (by decide) fl72 (fun _ h9 => h9) rfl (tyX5_ok 8 (by decide)) rfl rfl (Nat.le_of_ble_eq_true rfl) dX5_begin_17 (fun H locs hP _ hS => ?_)
  rw [zt_p4_8 (rfl : zt_kd 80 = 4), ← hσ5] at hP
  refine lv_aload_n hx hb dX5_begin_20 rfl (lv_at hl 0 rfl) ?_
  refine lv_bipush (v := 50) hx hb dX5_begin_21 (by decide +kernel) ?_
  obtain ⟨σ6, hσ6, hf⟩ := zt_lt_some hf
  refine va_put (D := zt_D G) (ci := 4) (v := .int 50) (ty := .int) (C := RX5) (T := TX5) (N := 15) hx hb hts inX5 tyX5 tyX5_ok nmX5 hown hK hP (zt_apart hE.1) hS 80 (zt_a4 (rfl : zt_kd 80 = 4)) rfl 9 (by decide) fl46 (fun _ h9 => h9) rfl (tyX5_ok 9 (by decide)) rfl rfl (Nat.le_of_ble_eq_true rfl) dX5_begin_23 (fun H locs hP _ hS => ?_)
  rw [zt_p4_9 (rfl : zt_kd 80 = 4), ← hσ6] at hP
  refine lv_aload_n hx hb dX5_begin_26 rfl (lv_at hl 0 rfl) ?_
  refine lv_iconst (v := 0) hx hb dX5_begin_27 (by decide) ?_
  obtain ⟨σ7, hσ7, hf⟩ := zt_lt_some hf
  refine va_put (D := zt_D G) (ci := 4) (v := .int 0) (ty := .int) (C := RX5) (T := TX5) (N := 15) hx hb hts inX5 tyX5 tyX5_ok nmX5 hown hK hP (zt_apart hE.1) hS 80 (zt_a4 (rfl : zt_kd 80 = 4)) rfl 10 (by decide) fl86 (fun _ h9 => h9) rfl (tyX5_ok 10 (by decide)) rfl rfl (Nat.le_of_ble_eq_true rfl) dX5_begin_28 (fun H locs hP _ hS => ?_)
  rw [zt_p4_10 (rfl : zt_kd 80 = 4), ← hσ7] at hP
  refine lv_aload_n hx hb dX5_begin_31 rfl (lv_at hl 0 rfl) ?_
  refine lv_iconst (v := 0) hx hb dX5_begin_32 (by decide) ?_
  obtain ⟨σ8, hσ8, hf⟩ := zt_lt_some hf
  refine va_put (D := zt_D G) (ci := 4) (v := .int 0) (ty := .int) (C := RX5) (T := TX5) (N := 15) hx hb hts inX5 tyX5 tyX5_ok nmX5 hown hK hP (zt_apart hE.1) hS 80 (zt_a4 (rfl : zt_kd 80 = 4)) rfl 11 (by decide) fl65 (fun _ h9 => h9) rfl (tyX5_ok 11 (by decide)) rfl rfl (Nat.le_of_ble_eq_true rfl) dX5_begin_33 (fun H locs hP _ hS => ?_)
  rw [zt_p4_11 (rfl : zt_kd 80 = 4), ← hσ8] at hP
  refine lv_aload_n hx hb dX5_begin_36 rfl (lv_at hl 0 rfl) ?_
  refine lv_iconst (v := 0) hx hb dX5_begin_37 (by decide) ?_
  obtain ⟨σ9, hσ9, hf⟩ := zt_lt_some hf
  refine va_put (D := zt_D G) (ci := 4) (v := .int 0) (ty := .boolean) (C := RX5) (T := TX5) (N := 15) hx hb hts inX5 tyX5 tyX5_ok nmX5 hown hK hP (zt_apart hE.1) hS 80 (zt_a4 (rfl : zt_kd 80 = 4)) rfl 12 (by decide) fl89 (fun _ h9 => h9) rfl (tyX5_ok 12 (by decide)) (zt_bn (by decide)).1 (zt_bn (by decide)).2 (Nat.le_of_ble_eq_true rfl) dX5_begin_38 (fun H locs hP _ hS => ?_)
  rw [zt_p4_12 (rfl : zt_kd 80 = 4), ← hσ9] at hP
  refine lv_aload_n hx hb dX5_begin_41 rfl (lv_at hl 0 rfl) ?_
  refine lv_iconst (v := 0) hx hb dX5_begin_42 (by decide) ?_
  obtain ⟨σ10, hσ10, hf⟩ := zt_lt_some hf
  refine va_put (D := zt_D G) (ci := 4) (v := .int 0) (ty := .int) (C := RX5) (T := TX5) (N := 15) hx hb hts inX5 tyX5 tyX5_ok nmX5 hown hK hP (zt_apart hE.1) hS 80 (zt_a4 (rfl : zt_kd 80 = 4)) rfl 13 (by decide) fl59 (fun _ h9 => h9) rfl (tyX5_ok 13 (by decide)) rfl rfl (Nat.le_of_ble_eq_true rfl) dX5_begin_43 (fun H locs hP _ hS => ?_)
  rw [zt_p4_13 (rfl : zt_kd 80 = 4), ← hσ10] at hP
  refine lv_aload_n hx hb dX5_begin_46 rfl (lv_at hl 0 rfl) ?_
  refine lv_iconst (v := 0) hx hb dX5_begin_47 (by decide) ?_
  obtain ⟨σ11, hσ11, hf⟩ := zt_lt_some hf
  refine va_put (D := zt_D G) (ci := 4) (v := .int 0) (ty := .int) (C := RX5) (T := TX5) (N := 15) hx hb hts inX5 tyX5 tyX5_ok nmX5 hown hK hP (zt_apart hE.1) hS 80 (zt_a4 (rfl : zt_kd 80 = 4)) rfl 14 (by decide) fl56 (fun _ h9 => h9) rfl (tyX5_ok 14 (by decide)) rfl rfl (Nat.le_of_ble_eq_true rfl) dX5_begin_48 (fun H locs hP _ hS => ?_)
  rw [zt_p4_14 (rfl : zt_kd 80 = 4), ← hσ11] at hP
  exact W.vret hx hb hr (fun t ht hW => ⟨⟨_, rfl, (Option.some.inj hf), zt_go hE hP hS zt_id ht hW⟩, hS.F ht⟩) hS.2.2 dX5_begin_51

theorem zh_X5_nearestKeptZone : yX5_nearestKeptZone.cls = RX5 ∧ yX5_nearestKeptZone.cls ≠ "java/lang/invoke/MethodHandle" ∧ yX5_nearestKeptZone.cls ≠ "java/lang/invoke/VarHandle" ∧ (parseMethodDescriptor yX5_nearestKeptZone.desc).map (fun d => d.parameters.length) = some 0 := by decide +kernel
set_option maxHeartbeats 4000000 in
set_option maxRecDepth 100000 in
theorem m_X5_nearestKeptZone (l : Launch) (G : zt_G) {σ : zt_St} {r : Int32} (hf : f_X5_nearestKeptZone σ = some r) : zt_Mi l G yX5_nearestKeptZone wsX5_nearestKeptZone 1 23 [.ref (zt_ad G 80)] σ r σ := by
  refine Met.ofW (cc := cX5_nearestKeptZone) (maxL := 5) (ret := (some .int)) (by decide) rfl ?_
  intro p e s m args below meth c s₁ B hml hv
  obtain ⟨rfl, hBB⟩ := hv
  have hE := zt_B.env hBB; have hK := hE.2.1; have hP := hBB.2.1
  have hx := B.exec; have hb := B.bytes; have hr := B.returns; have hts := atoms_spec (ws := wsX5_nearestKeptZone) B.pre
  have hown : s.vm.findClass RX5 = some m.cls := findClass_of_methodNamed B.named
  have hlocks := B.notSynchronized
  have hS : va_S (zt_A G) s.heap s.heap [] := va_S.rf
  have hl := lv_entry ([.ref (zt_ad G 80)]) (n := 5) (Nat.le_of_ble_eq_true rfl)
  rw [lg_entry_eq]
  generalize (lg_sl ([.ref (zt_ad G 80)]) ++ List.replicate (5 - (lg_sl ([.ref (zt_ad G 80)])).length) Slot.unset).toArray = ls at hl ⊢
  have hl : lv_has ls 5 [(0, .ref (zt_ad G 80))] := hl
  show W p l e (zt_R 1 23) s m ([.ref (zt_ad G 80)] : List Value).toArray below meth c s.heap [] 0 0 (MQ below (zt_Ci G r σ) ([.ref (zt_ad G 80)] : List Value).toArray s 0 0 (zt_A G)) (F0 m 0 ls [])
  have fl12 := hts (.fieldLink RX5 12 "ZoneTree$Resolver" "kept" "LZoneTree$Kept;") (List.mem_cons_of_mem _ (List.mem_append_left _ (List.mem_append_left _ (List.mem_append_left _ (List.mem_append_left _ (List.mem_of_getElem? (i := 3) rfl))))))
  have fl29 := hts (.fieldLink RX5 29 "ZoneTree$Resolver" "zones" "LZoneTree$Zones;") (List.mem_cons_of_mem _ (List.mem_append_left _ (List.mem_append_left _ (List.mem_append_left _ (List.mem_append_left _ (List.mem_of_getElem? (i := 0) rfl))))))
  have fl71 := hts (.fieldLink RX5 71 "ZoneTree$Resolver" "name" "I") (List.mem_cons_of_mem _ (List.mem_append_left _ (List.mem_append_left _ (List.mem_append_left _ (List.mem_append_left _ (List.mem_of_getElem? (i := 1) rfl))))))
  have fl79 := hts (.fieldLink RX5 79 "ZoneTree$Resolver" "sort" "I") (List.mem_cons_of_mem _ (List.mem_append_left _ (List.mem_append_left _ (List.mem_append_left _ (List.mem_append_left _ (List.mem_of_getElem? (i := 2) rfl))))))
  have fl104 := hts (.fieldLink RX5 104 "ZoneTree$Resolver" "now" "I") (List.mem_cons_of_mem _ (List.mem_append_left _ (List.mem_append_left _ (List.mem_append_left _ (List.mem_append_left _ (List.mem_of_getElem? (i := 4) rfl))))))
  have fl140 := zt_Nw.use (args := ([.ref (zt_ad G 80)] : List Value).toArray) hE.2.2.1 (q := ("ZoneTree$Resolver", 140, "ZoneTree$Zones", "count", "I", "ZoneTree")) (List.mem_of_getElem? (i := 11) rfl)
  have fl143 := zt_Nw.use (args := ([.ref (zt_ad G 80)] : List Value).toArray) hE.2.2.1 (q := ("ZoneTree$Resolver", 143, "ZoneTree$Zone", "apex", "I", "ZoneTree")) (List.mem_of_getElem? (i := 2) rfl)
  have inX5 : ∀ w ∈ wsX50, w ∈ wsX5_nearestKeptZone := fun w h => (List.mem_cons_of_mem _ (List.mem_append_left _ (List.mem_append_left _ (List.mem_append_left _ (List.mem_append_right _ h)))))
  have inX6 : ∀ w ∈ wsX60, w ∈ wsX5_nearestKeptZone := fun w h => (List.mem_cons_of_mem _ (List.mem_append_left _ (List.mem_append_right _ h)))
  have inX7 : ∀ w ∈ wsX70, w ∈ wsX5_nearestKeptZone := fun w h => (List.mem_cons_of_mem _ (List.mem_append_left _ (List.mem_append_left _ (List.mem_append_right _ h))))
  have B106 : ∀ (rc4 : Int32 → Int32 → Option (Int32)) (hrc4 : ∀ (u1 : Int32) (u2 : Int32) (H : Heap) (locs : List Loc) (ls : Array Slot), rc4 u1 u2 = some r → va_P (zt_D G) vwCl (zt_ww G σ) H → va_S (zt_A G) s.heap H locs → lv_has ls 5 [(0, .ref (zt_ad G 80)), (1, .int u1), (2, .int u2)] → W p l e (zt_R 1 23) s m ([.ref (zt_ad G 80)] : List Value).toArray below meth c H locs 0 0 (MQ below (zt_Ci G r σ) ([.ref (zt_ad G 80)] : List Value).toArray s 0 0 (zt_A G)) (F0 m 4 ls [])), ∀ (u1 : Int32) (u2 : Int32) (H : Heap) (locs : List Loc) (ls : Array Slot), f_X5_nearestKeptZone_106 σ rc4 u1 u2 = some r → va_P (zt_D G) vwCl (zt_ww G σ) H → va_S (zt_A G) s.heap H locs → lv_has ls 5 [(0, .ref (zt_ad G 80)), (1, .int u1), (2, .int u2)] → W p l e (zt_R 1 23) s m ([.ref (zt_ad G 80)] : List Value).toArray below meth c H locs 0 0 (MQ below (zt_Ci G r σ) ([.ref (zt_ad G 80)] : List Value).toArray s 0 0 (zt_A G)) (F0 m 106 ls []) := by
    intro rc4 hrc4 u1 u2 H locs ls hf hP hS hl
    unfold f_X5_nearestKeptZone_106 at hf
    refine lv_iinc (v := (u2 + 1)) (lv' := [(2, .int (u2 + 1)), (0, .ref (zt_ad G 80)), (1, .int u1)]) hx hb dX5_nearestKeptZone_106 hl (k := 2) rfl rfl (by decide) rfl (fun ls hl => ?_)
    refine lv_goto (tgt := 4) hx hb dX5_nearestKeptZone_109 (by decide) ?_
    exact hrc4 u1 (u2 + 1) _ _ _ hf hP hS (lv_sub hl [1, 2, 0] rfl)
  have B67 : ∀ (rc4 : Int32 → Int32 → Option (Int32)) (hrc4 : ∀ (u1 : Int32) (u2 : Int32) (H : Heap) (locs : List Loc) (ls : Array Slot), rc4 u1 u2 = some r → va_P (zt_D G) vwCl (zt_ww G σ) H → va_S (zt_A G) s.heap H locs → lv_has ls 5 [(0, .ref (zt_ad G 80)), (1, .int u1), (2, .int u2)] → W p l e (zt_R 1 23) s m ([.ref (zt_ad G 80)] : List Value).toArray below meth c H locs 0 0 (MQ below (zt_Ci G r σ) ([.ref (zt_ad G 80)] : List Value).toArray s 0 0 (zt_A G)) (F0 m 4 ls [])), ∀ (y0 : Int32) (u1 : Int32) (u2 : Int32) (u3 : Int32) (H : Heap) (locs : List Loc) (ls : Array Slot), f_X5_nearestKeptZone_67 σ rc4 y0 u1 u2 u3 = some r → va_P (zt_D G) vwCl (zt_ww G σ) H → va_S (zt_A G) s.heap H locs → lv_has ls 5 [(0, .ref (zt_ad G 80)), (1, .int u1), (2, .int u2), (3, .int u3)] → W p l e (zt_R 1 23) s m ([.ref (zt_ad G 80)] : List Value).toArray below meth c H locs 0 0 (MQ below (zt_Ci G r σ) ([.ref (zt_ad G 80)] : List Value).toArray s 0 0 (zt_A G)) (F0 m 67 ls [.int y0]) := by
    intro rc4 hrc4 y0 u1 u2 u3 H locs ls hf hP hS hl
    unfold f_X5_nearestKeptZone_67 at hf
    refine lv_istore (lv' := [(4, .int y0), (0, .ref (zt_ad G 80)), (1, .int u1), (2, .int u2), (3, .int u3)]) hx hb dX5_nearestKeptZone_67 hl (by decide) rfl (fun ls hl => ?_)
    refine lv_iload hx hb dX5_nearestKeptZone_69 (lv_at hl 0 rfl) ?_
    refine lv_if_eq (tgt := 106) hx hb dX5_nearestKeptZone_71 (by decide) (fun c12 => ?_) (fun c12 => ?_)
    · have hf := (if_pos c12).symm.trans hf
      exact B106 rc4 hrc4 u1 u2 _ _ _ hf hP hS (lv_sub hl [1, 2, 3] rfl)
    · have hf := (if_neg c12).symm.trans hf
      refine lv_aload_n hx hb dX5_nearestKeptZone_74 rfl (lv_at hl 1 rfl) ?_
      refine va_get (D := zt_D G) (ci := 4) (v := .ref (zt_ad G 81)) (C := RX5) (T := TX5) (N := 15) hx hb hts inX5 hown hK hP 80 (zt_a4 (rfl : zt_kd 80 = 4)) rfl 1 (by decide) fl12 (fun _ h9 => h9) rfl dX5_nearestKeptZone_75 ?_
      refine lv_iload_n hx hb dX5_nearestKeptZone_78 rfl (lv_at hl 3 rfl) ?_
      refine lv_aload_n hx hb dX5_nearestKeptZone_79 rfl (lv_at hl 1 rfl) ?_
      refine va_get (D := zt_D G) (ci := 4) (v := .int (σ 80 3)) (C := RX5) (T := TX5) (N := 15) hx hb hts inX5 hown hK hP 80 (zt_a4 (rfl : zt_kd 80 = 4)) rfl 3 (by decide) fl104 (fun _ h9 => h9) rfl dX5_nearestKeptZone_80 ?_
      obtain ⟨v13, hvv13, hf⟩ := zt_bd_some hf
      refine va_calli (va_runV (As := [.int u2, .int (σ 80 3)]) (rest := []) ⟨hx, hb, hml, hown, hts⟩ (m_X2_isZoneHolding l G (σ := σ) hvv13) (cwV 2 hts gX5_nearestKeptZone_X2_isZoneHolding rfl rfl rfl zh_X2_isZoneHolding ⟨Nat.le_of_ble_eq_true rfl, Nat.le_of_ble_eq_true rfl⟩) ⟨zt_blind, va_recv hK hP (ci := 2) (q0 := 81) rfl (zt_a2 (rfl : zt_kd 81 = 2)), fun U hU hW => ⟨rfl, zt_go hE hP hS zt_id hU hW⟩⟩ rfl rfl hl.1 rfl (lv_room (Nat.le_of_ble_eq_true rfl)) dX5_nearestKeptZone_83 ⟨Nat.zero_le _, Nat.zero_le _⟩) hS (fun _ _ h => h) (fun _ h => h) (fun r u t H locs ht hvm hw hB _ _ hS => ?_)
      rw [hw.1]; have hB : zt_B G u t := hB; rw [hw.2] at hB; have hP := zt_B.P hB ht
      refine lv_if_eq (tgt := 106) hx hb dX5_nearestKeptZone_86 (by decide) (fun c15 => ?_) (fun c15 => ?_)
      · have hf := (if_pos c15).symm.trans hf
        exact B106 rc4 hrc4 u1 u2 _ _ _ hf hP hS (lv_sub hl [1, 2, 3] rfl)
      · have hf := (if_neg c15).symm.trans hf
        refine lv_iload_n hx hb dX5_nearestKeptZone_89 rfl (lv_at hl 4 rfl) ?_
        refine lv_aload_n hx hb dX5_nearestKeptZone_90 rfl (lv_at hl 1 rfl) ?_
        refine va_get (D := zt_D G) (ci := 4) (v := .ref (zt_ad G 1)) (C := RX5) (T := TX5) (N := 15) hx hb hts inX5 hown hK hP 80 (zt_a4 (rfl : zt_kd 80 = 4)) rfl 0 (by decide) fl29 (fun _ h9 => h9) rfl dX5_nearestKeptZone_91 ?_
        refine lv_iload_n hx hb dX5_nearestKeptZone_94 rfl (lv_at hl 2 rfl) ?_
        obtain ⟨z18, hvv16, hf⟩ := zt_bd_some hf; obtain ⟨g19, hf⟩ := zt_gd_some hf; have hz18 := of_decide_eq_true g19
        refine va_callr (va_runV (As := [.int u1]) (rest := [.int u3]) ⟨hx, hb, hml, hown, hts⟩ (m_X7_at l G (σ := σ) hvv16) (cwV 1 hts gX5_nearestKeptZone_X7_at rfl rfl rfl zh_X7_at ⟨Nat.le_of_ble_eq_true rfl, Nat.le_of_ble_eq_true rfl⟩) ⟨zt_blind, va_recv hK hP (ci := 6) (q0 := 1) rfl (zt_a6 (rfl : zt_kd 1 = 6)), fun U hU hW => ⟨rfl, zt_go hE hP hS zt_id hU hW⟩⟩ rfl rfl hl.1 rfl (lv_room (Nat.le_of_ble_eq_true rfl)) dX5_nearestKeptZone_95 ⟨Nat.zero_le _, Nat.zero_le _⟩) hS (fun _ _ h => h) (fun _ h => h) (fun u a t H locs ht hvm hw hB _ _ hS => ?_)
        rw [hB.1]; have hB : zt_B G u t := hB.2; rw [hw] at hB; have hP := zt_B.P hB ht
        refine va_getN (D := zt_D G) (ci := 5) (v := .int (σ z18 0)) (C := RX6) (T := TX6) (N := 11) hx hb hts inX6 hown hK hP z18 (zt_a5 hz18) rfl 0 (by decide) fl143 (fun _ h9 => h9) rfl dX5_nearestKeptZone_98 ?_
        refine lv_icmp_le (tgt := 106) hx hb dX5_nearestKeptZone_101 (by decide) (fun c20 => ?_) (fun c20 => ?_)
        · have hf := (if_pos c20).symm.trans hf
          exact B106 rc4 hrc4 u1 u2 _ _ _ hf hP hS (lv_sub hl [1, 2, 3] rfl)
        · have hf := (if_neg c20).symm.trans hf
          refine lv_iload_n hx hb dX5_nearestKeptZone_104 rfl (lv_at hl 3 rfl) ?_
          refine lv_istore_n (lv' := [(1, .int u2), (4, .int y0), (0, .ref (zt_ad G 80)), (2, .int u2), (3, .int u3)]) hx hb dX5_nearestKeptZone_105 rfl hl (by decide) rfl (fun ls hl => ?_)
          exact B106 rc4 hrc4 u2 u2 _ _ _ hf hP hS (lv_sub hl [2, 0, 3] rfl)
  have B66 : ∀ (rc4 : Int32 → Int32 → Option (Int32)) (hrc4 : ∀ (u1 : Int32) (u2 : Int32) (H : Heap) (locs : List Loc) (ls : Array Slot), rc4 u1 u2 = some r → va_P (zt_D G) vwCl (zt_ww G σ) H → va_S (zt_A G) s.heap H locs → lv_has ls 5 [(0, .ref (zt_ad G 80)), (1, .int u1), (2, .int u2)] → W p l e (zt_R 1 23) s m ([.ref (zt_ad G 80)] : List Value).toArray below meth c H locs 0 0 (MQ below (zt_Ci G r σ) ([.ref (zt_ad G 80)] : List Value).toArray s 0 0 (zt_A G)) (F0 m 4 ls [])), ∀ (u1 : Int32) (u2 : Int32) (u3 : Int32) (H : Heap) (locs : List Loc) (ls : Array Slot), f_X5_nearestKeptZone_66 σ rc4 u1 u2 u3 = some r → va_P (zt_D G) vwCl (zt_ww G σ) H → va_S (zt_A G) s.heap H locs → lv_has ls 5 [(0, .ref (zt_ad G 80)), (1, .int u1), (2, .int u2), (3, .int u3)] → W p l e (zt_R 1 23) s m ([.ref (zt_ad G 80)] : List Value).toArray below meth c H locs 0 0 (MQ below (zt_Ci G r σ) ([.ref (zt_ad G 80)] : List Value).toArray s 0 0 (zt_A G)) (F0 m 66 ls []) := by
    intro rc4 hrc4 u1 u2 u3 H locs ls hf hP hS hl
    unfold f_X5_nearestKeptZone_66 at hf
    refine lv_iconst (v := 0) hx hb dX5_nearestKeptZone_66 (by decide) ?_
    exact B67 rc4 hrc4 0 u1 u2 u3 _ _ _ hf hP hS (lv_sub hl [0, 1, 2, 3] rfl)
  have B62 : ∀ (rc4 : Int32 → Int32 → Option (Int32)) (hrc4 : ∀ (u1 : Int32) (u2 : Int32) (H : Heap) (locs : List Loc) (ls : Array Slot), rc4 u1 u2 = some r → va_P (zt_D G) vwCl (zt_ww G σ) H → va_S (zt_A G) s.heap H locs → lv_has ls 5 [(0, .ref (zt_ad G 80)), (1, .int u1), (2, .int u2)] → W p l e (zt_R 1 23) s m ([.ref (zt_ad G 80)] : List Value).toArray below meth c H locs 0 0 (MQ below (zt_Ci G r σ) ([.ref (zt_ad G 80)] : List Value).toArray s 0 0 (zt_A G)) (F0 m 4 ls [])), ∀ (u1 : Int32) (u2 : Int32) (u3 : Int32) (H : Heap) (locs : List Loc) (ls : Array Slot), f_X5_nearestKeptZone_62 σ rc4 u1 u2 u3 = some r → va_P (zt_D G) vwCl (zt_ww G σ) H → va_S (zt_A G) s.heap H locs → lv_has ls 5 [(0, .ref (zt_ad G 80)), (1, .int u1), (2, .int u2), (3, .int u3)] → W p l e (zt_R 1 23) s m ([.ref (zt_ad G 80)] : List Value).toArray below meth c H locs 0 0 (MQ below (zt_Ci G r σ) ([.ref (zt_ad G 80)] : List Value).toArray s 0 0 (zt_A G)) (F0 m 62 ls []) := by
    intro rc4 hrc4 u1 u2 u3 H locs ls hf hP hS hl
    unfold f_X5_nearestKeptZone_62 at hf
    refine lv_iconst (v := 1) hx hb dX5_nearestKeptZone_62 (by decide) ?_
    refine lv_goto (tgt := 67) hx hb dX5_nearestKeptZone_63 (by decide) ?_
    exact B67 rc4 hrc4 1 u1 u2 u3 _ _ _ hf hP hS (lv_sub hl [0, 1, 2, 3] rfl)
  have B4 : ∀ (n : Nat), ∀ (u1 : Int32) (u2 : Int32) (H : Heap) (locs : List Loc) (ls : Array Slot), f_X5_nearestKeptZone_4 σ n u1 u2 = some r → va_P (zt_D G) vwCl (zt_ww G σ) H → va_S (zt_A G) s.heap H locs → lv_has ls 5 [(0, .ref (zt_ad G 80)), (1, .int u1), (2, .int u2)] → W p l e (zt_R 1 23) s m ([.ref (zt_ad G 80)] : List Value).toArray below meth c H locs 0 0 (MQ below (zt_Ci G r σ) ([.ref (zt_ad G 80)] : List Value).toArray s 0 0 (zt_A G)) (F0 m 4 ls []) := by
    intro n
    induction n with
    | zero => intro u1 u2 H locs ls hf; exact nomatch hf
    | succ n hrc4 =>
      intro u1 u2 H locs ls hf hP hS hl
      generalize hrcg : f_X5_nearestKeptZone_4 σ n = rc4 at hrc4
      have hf : f_X5_nearestKeptZone_4b σ rc4 u1 u2 = some r := by rw [← hrcg]; exact hf
      unfold f_X5_nearestKeptZone_4b at hf
      refine lv_iload_n hx hb dX5_nearestKeptZone_4 rfl (lv_at hl 2 rfl) ?_
      refine lv_aload_n hx hb dX5_nearestKeptZone_5 rfl (lv_at hl 0 rfl) ?_
      refine va_get (D := zt_D G) (ci := 4) (v := .ref (zt_ad G 1)) (C := RX5) (T := TX5) (N := 15) hx hb hts inX5 hown hK hP 80 (zt_a4 (rfl : zt_kd 80 = 4)) rfl 0 (by decide) fl29 (fun _ h9 => h9) rfl dX5_nearestKeptZone_6 ?_
      refine va_getN (D := zt_D G) (ci := 6) (v := .int (σ 1 1)) (C := RX7) (T := TX7) (N := 2) hx hb hts inX7 hown hK hP 1 (zt_a6 (rfl : zt_kd 1 = 6)) rfl 1 (by decide) fl140 (fun _ h9 => h9) rfl dX5_nearestKeptZone_9 ?_
      refine lv_icmp_ge (tgt := 112) hx hb dX5_nearestKeptZone_12 (by decide) (fun c1 => ?_) (fun c1 => ?_)
      · have hf := (if_pos c1).symm.trans hf
        refine lv_iload_n hx hb dX5_nearestKeptZone_112 rfl (lv_at hl 1 rfl) ?_
        exact W.iret hx hb hr (fun t ht hW => ⟨⟨_, _, rfl, ⟨Option.some.inj hf, rfl⟩, zt_go hE hP hS zt_id ht hW⟩, hS.F ht⟩) hS.2.2 dX5_nearestKeptZone_113
      · have hf := (if_neg c1).symm.trans hf
        refine lv_aload_n hx hb dX5_nearestKeptZone_15 rfl (lv_at hl 0 rfl) ?_
        refine va_get (D := zt_D G) (ci := 4) (v := .ref (zt_ad G 1)) (C := RX5) (T := TX5) (N := 15) hx hb hts inX5 hown hK hP 80 (zt_a4 (rfl : zt_kd 80 = 4)) rfl 0 (by decide) fl29 (fun _ h9 => h9) rfl dX5_nearestKeptZone_16 ?_
        refine lv_iload_n hx hb dX5_nearestKeptZone_19 rfl (lv_at hl 2 rfl) ?_
        obtain ⟨z4, hvv2, hf⟩ := zt_bd_some hf; obtain ⟨g5, hf⟩ := zt_gd_some hf; have hz4 := of_decide_eq_true g5
        refine va_callr (va_runV (As := [.int u2]) (rest := []) ⟨hx, hb, hml, hown, hts⟩ (m_X7_at l G (σ := σ) hvv2) (cwV 1 hts gX5_nearestKeptZone_X7_at rfl rfl rfl zh_X7_at ⟨Nat.le_of_ble_eq_true rfl, Nat.le_of_ble_eq_true rfl⟩) ⟨zt_blind, va_recv hK hP (ci := 6) (q0 := 1) rfl (zt_a6 (rfl : zt_kd 1 = 6)), fun U hU hW => ⟨rfl, zt_go hE hP hS zt_id hU hW⟩⟩ rfl rfl hl.1 rfl (lv_room (Nat.le_of_ble_eq_true rfl)) dX5_nearestKeptZone_20 ⟨Nat.zero_le _, Nat.zero_le _⟩) hS (fun _ _ h => h) (fun _ h => h) (fun u a t H locs ht hvm hw hB _ _ hS => ?_)
        rw [hB.1]; have hB : zt_B G u t := hB.2; rw [hw] at hB; have hP := zt_B.P hB ht
        refine va_getN (D := zt_D G) (ci := 5) (v := .int (σ z4 0)) (C := RX6) (T := TX6) (N := 11) hx hb hts inX6 hown hK hP z4 (zt_a5 hz4) rfl 0 (by decide) fl143 (fun _ h9 => h9) rfl dX5_nearestKeptZone_23 ?_
        refine lv_istore_n (lv' := [(3, .int (σ z4 0)), (0, .ref (zt_ad G 80)), (1, .int u1), (2, .int u2)]) hx hb dX5_nearestKeptZone_26 rfl hl (by decide) rfl (fun ls hl => ?_)
        refine lv_aload_n hx hb dX5_nearestKeptZone_27 rfl (lv_at hl 1 rfl) ?_
        refine va_get (D := zt_D G) (ci := 4) (v := .int (σ 80 6)) (C := RX5) (T := TX5) (N := 15) hx hb hts inX5 hown hK hP 80 (zt_a4 (rfl : zt_kd 80 = 4)) rfl 6 (by decide) fl71 (fun _ h9 => h9) rfl dX5_nearestKeptZone_28 ?_
        refine lv_iload_n hx hb dX5_nearestKeptZone_31 rfl (lv_at hl 0 rfl) ?_
        obtain ⟨v6, hvv6, hf⟩ := zt_bd_some hf
        refine va_calli (va_runS (As := [.int (σ 80 6), .int (σ z4 0)]) (rest := []) ⟨hx, hb, hml, hown, hts⟩ (m_X3_isUnder l G (σ := σ) hvv6) (va_cwS 2 hts gX5_nearestKeptZone_X3_isUnder rfl rfl rfl zh_X3_isUnder ⟨Nat.le_of_ble_eq_true rfl, Nat.le_of_ble_eq_true rfl⟩) ⟨zt_blind, fun U hU hW => ⟨rfl, zt_go hE hP hS zt_id hU hW⟩⟩ rfl rfl hl.1 rfl (lv_room (Nat.le_of_ble_eq_true rfl)) dX5_nearestKeptZone_32 ⟨Nat.zero_le _, Nat.zero_le _⟩) hS (fun _ _ h => h) (fun _ h => h) (fun r u t H locs ht hvm hw hB _ _ hS => ?_)
        rw [hw.1]; have hB : zt_B G u t := hB; rw [hw.2] at hB; have hP := zt_B.P hB ht
        refine lv_if_eq (tgt := 66) hx hb dX5_nearestKeptZone_35 (by decide) (fun c8 => ?_) (fun c8 => ?_)
        · have hf := (if_pos c8).symm.trans hf
          exact B66 rc4 hrc4 u1 u2 (σ z4 0) _ _ _ hf hP hS (lv_sub hl [1, 2, 3, 0] rfl)
        · have hf := (if_neg c8).symm.trans hf
          refine lv_iload_n hx hb dX5_nearestKeptZone_38 rfl (lv_at hl 0 rfl) ?_
          refine lv_aload_n hx hb dX5_nearestKeptZone_39 rfl (lv_at hl 1 rfl) ?_
          refine va_get (D := zt_D G) (ci := 4) (v := .int (σ 80 6)) (C := RX5) (T := TX5) (N := 15) hx hb hts inX5 hown hK hP 80 (zt_a4 (rfl : zt_kd 80 = 4)) rfl 6 (by decide) fl71 (fun _ h9 => h9) rfl dX5_nearestKeptZone_40 ?_
          refine lv_icmp_ne (tgt := 62) hx hb dX5_nearestKeptZone_43 (by decide) (fun c9 => ?_) (fun c9 => ?_)
          · have hf := (if_neg c9).symm.trans hf
            exact B62 rc4 hrc4 u1 u2 (σ z4 0) _ _ _ hf hP hS (lv_sub hl [1, 2, 3, 0] rfl)
          · have hf := (if_pos c9).symm.trans hf
            refine lv_aload_n hx hb dX5_nearestKeptZone_46 rfl (lv_at hl 1 rfl) ?_
            refine va_get (D := zt_D G) (ci := 4) (v := .int (σ 80 7)) (C := RX5) (T := TX5) (N := 15) hx hb hts inX5 hown hK hP 80 (zt_a4 (rfl : zt_kd 80 = 4)) rfl 7 (by decide) fl79 (fun _ h9 => h9) rfl dX5_nearestKeptZone_47 ?_
            refine lv_iconst (v := 3) hx hb dX5_nearestKeptZone_50 (by decide) ?_
            refine lv_icmp_eq (tgt := 66) hx hb dX5_nearestKeptZone_51 (by decide) (fun c10 => ?_) (fun c10 => ?_)
            · have hf := (if_pos c10).symm.trans hf
              exact B66 rc4 hrc4 u1 u2 (σ z4 0) _ _ _ hf hP hS (lv_sub hl [1, 2, 3, 0] rfl)
            · have hf := (if_neg c10).symm.trans hf
              refine lv_aload_n hx hb dX5_nearestKeptZone_54 rfl (lv_at hl 1 rfl) ?_
              refine va_get (D := zt_D G) (ci := 4) (v := .int (σ 80 7)) (C := RX5) (T := TX5) (N := 15) hx hb hts inX5 hown hK hP 80 (zt_a4 (rfl : zt_kd 80 = 4)) rfl 7 (by decide) fl79 (fun _ h9 => h9) rfl dX5_nearestKeptZone_55 ?_
              refine lv_iconst (v := 4) hx hb dX5_nearestKeptZone_58 (by decide) ?_
              refine lv_icmp_eq (tgt := 66) hx hb dX5_nearestKeptZone_59 (by decide) (fun c11 => ?_) (fun c11 => ?_)
              · have hf := (if_pos c11).symm.trans hf
                exact B66 rc4 hrc4 u1 u2 (σ z4 0) _ _ _ hf hP hS (lv_sub hl [1, 2, 3, 0] rfl)
              · have hf := (if_neg c11).symm.trans hf
                exact B62 rc4 hrc4 u1 u2 (σ z4 0) _ _ _ hf hP hS (lv_sub hl [1, 2, 3, 0] rfl)
  unfold f_X5_nearestKeptZone at hf
  refine lv_iconst (v := 0) hx hb dX5_nearestKeptZone_0 (by decide) ?_
  refine lv_istore_n (lv' := [(1, .int 0), (0, .ref (zt_ad G 80))]) hx hb dX5_nearestKeptZone_1 rfl hl (by decide) rfl (fun ls hl => ?_)
  refine lv_iconst (v := 1) hx hb dX5_nearestKeptZone_2 (by decide) ?_
  refine lv_istore_n (lv' := [(2, .int 1), (1, .int 0), (0, .ref (zt_ad G 80))]) hx hb dX5_nearestKeptZone_3 rfl hl (by decide) rfl (fun ls hl => ?_)
  exact B4 zt_FU 0 1 _ _ _ hf hP hS (lv_sub hl [2, 1, 0] rfl)

theorem zh_X5_goToStart : yX5_goToStart.cls = RX5 ∧ yX5_goToStart.cls ≠ "java/lang/invoke/MethodHandle" ∧ yX5_goToStart.cls ≠ "java/lang/invoke/VarHandle" ∧ (parseMethodDescriptor yX5_goToStart.desc).map (fun d => d.parameters.length) = some 0 := by decide +kernel
set_option maxHeartbeats 4000000 in
set_option maxRecDepth 100000 in
theorem m_X5_goToStart (l : Launch) (G : zt_G) {σ : zt_St} {σ1 : zt_St} (hf : f_X5_goToStart σ = some σ1) : zt_Mv l G yX5_goToStart wsX5_goToStart 3 64 [.ref (zt_ad G 80)] σ σ1 := by
  refine Met.ofW (cc := cX5_goToStart) (maxL := 1) (ret := none) (by decide) rfl ?_
  intro p e s m args below meth c s₁ B hml hv
  obtain ⟨rfl, hBB⟩ := hv
  have hE := zt_B.env hBB; have hK := hE.2.1; have hP := hBB.2.1
  have hx := B.exec; have hb := B.bytes; have hr := B.returns; have hts := atoms_spec (ws := wsX5_goToStart) B.pre
  have hown : s.vm.findClass RX5 = some m.cls := findClass_of_methodNamed B.named
  have hlocks := B.notSynchronized
  have hS : va_S (zt_A G) s.heap s.heap [] := va_S.rf
  have hl := lv_entry ([.ref (zt_ad G 80)]) (n := 1) (Nat.le_of_ble_eq_true rfl)
  rw [lg_entry_eq]
  generalize (lg_sl ([.ref (zt_ad G 80)]) ++ List.replicate (1 - (lg_sl ([.ref (zt_ad G 80)])).length) Slot.unset).toArray = ls at hl ⊢
  have hl : lv_has ls 1 [(0, .ref (zt_ad G 80))] := hl
  show W p l e (zt_R 3 64) s m ([.ref (zt_ad G 80)] : List Value).toArray below meth c s.heap [] 0 0 (MQ below (zt_Cv G σ1) ([.ref (zt_ad G 80)] : List Value).toArray s 0 0 (zt_A G)) (F0 m 0 ls [])
  have fl25 := hts (.fieldLink RX5 25 "ZoneTree$Resolver" "anchor" "I") (List.mem_cons_of_mem _ (List.mem_append_left _ (List.mem_append_left _ (List.mem_append_left _ (List.mem_append_left _ (List.mem_append_left _ (List.mem_of_getElem? (i := 2) rfl)))))))
  have fl29 := hts (.fieldLink RX5 29 "ZoneTree$Resolver" "zones" "LZoneTree$Zones;") (List.mem_cons_of_mem _ (List.mem_append_left _ (List.mem_append_left _ (List.mem_append_left _ (List.mem_append_left _ (List.mem_append_left _ (List.mem_of_getElem? (i := 4) rfl)))))))
  have fl59 := hts (.fieldLink RX5 59 "ZoneTree$Resolver" "zoneTrust" "I") (List.mem_cons_of_mem _ (List.mem_append_left _ (List.mem_append_left _ (List.mem_append_left _ (List.mem_append_left _ (List.mem_append_left _ (List.mem_of_getElem? (i := 3) rfl)))))))
  have fl72 := hts (.fieldLink RX5 72 "ZoneTree$Resolver" "zone" "I") (List.mem_cons_of_mem _ (List.mem_append_left _ (List.mem_append_left _ (List.mem_append_left _ (List.mem_append_left _ (List.mem_append_left _ (List.mem_of_getElem? (i := 1) rfl)))))))
  have fl82 := hts (.fieldLink RX5 82 "ZoneTree$Resolver" "isAnew" "Z") (List.mem_cons_of_mem _ (List.mem_append_left _ (List.mem_append_left _ (List.mem_append_left _ (List.mem_append_left _ (List.mem_append_left _ (List.mem_of_getElem? (i := 0) rfl)))))))
  have fl104 := hts (.fieldLink RX5 104 "ZoneTree$Resolver" "now" "I") (List.mem_cons_of_mem _ (List.mem_append_left _ (List.mem_append_left _ (List.mem_append_left _ (List.mem_append_left _ (List.mem_append_left _ (List.mem_of_getElem? (i := 5) rfl)))))))
  have inX5 : ∀ w ∈ wsX50, w ∈ wsX5_goToStart := fun w h => (List.mem_cons_of_mem _ (List.mem_append_left _ (List.mem_append_left _ (List.mem_append_left _ (List.mem_append_right _ h)))))
  have B66 : ∀ (σ : zt_St) (y0 : Int32) (H : Heap) (locs : List Loc) (ls : Array Slot), f_X5_goToStart_66 σ y0 = some σ1 → va_P (zt_D G) vwCl (zt_ww G σ) H → va_S (zt_A G) s.heap H locs → lv_has ls 1 [] → W p l e (zt_R 3 64) s m ([.ref (zt_ad G 80)] : List Value).toArray below meth c H locs 0 0 (MQ below (zt_Cv G σ1) ([.ref (zt_ad G 80)] : List Value).toArray s 0 0 (zt_A G)) (F0 m 66 ls [.int y0, .ref (zt_ad G 80)]) := by
    intro σ y0 H locs ls hf hP hS hl
    unfold f_X5_goToStart_66 at hf
    obtain ⟨σ16, hσ16, hf⟩ := zt_lt_some hf
    refine va_put (D := zt_D G) (ci := 4) (v := .int y0) (ty := .int) (C := RX5) (T := TX5) (N := 15) hx hb hts inX5 tyX5 tyX5_ok nmX5 hown hK hP (zt_apart hE.1) hS 80 (zt_a4 (rfl : zt_kd 80 = 4)) rfl 13 (by decide) fl59 (fun _ h9 => h9) rfl (tyX5_ok 13 (by decide)) rfl rfl (Nat.le_of_ble_eq_true rfl) dX5_goToStart_66 (fun H locs hP _ hS => ?_)
    rw [zt_p4_13 (rfl : zt_kd 80 = 4), ← hσ16] at hP
    exact W.vret hx hb hr (fun t ht hW => ⟨⟨_, rfl, (Option.some.inj hf), zt_go hE hP hS zt_id ht hW⟩, hS.F ht⟩) hS.2.2 dX5_goToStart_69
  have B16 : ∀ (σ : zt_St) (y0 : Int32) (H : Heap) (locs : List Loc) (ls : Array Slot), f_X5_goToStart_16 σ y0 = some σ1 → va_P (zt_D G) vwCl (zt_ww G σ) H → va_S (zt_A G) s.heap H locs → lv_has ls 1 [(0, .ref (zt_ad G 80))] → W p l e (zt_R 3 64) s m ([.ref (zt_ad G 80)] : List Value).toArray below meth c H locs 0 0 (MQ below (zt_Cv G σ1) ([.ref (zt_ad G 80)] : List Value).toArray s 0 0 (zt_A G)) (F0 m 16 ls [.int y0, .ref (zt_ad G 80)]) := by
    intro σ y0 H locs ls hf hP hS hl
    unfold f_X5_goToStart_16 at hf
    obtain ⟨σ4, hσ4, hf⟩ := zt_lt_some hf
    refine va_put (D := zt_D G) (ci := 4) (v := .int y0) (ty := .int) (C := RX5) (T := TX5) (N := 15) hx hb hts inX5 tyX5 tyX5_ok nmX5 hown hK hP (zt_apart hE.1) hS 80 (zt_a4 (rfl : zt_kd 80 = 4)) rfl 8 (by decide) fl72 (fun _ h9 => h9) rfl (tyX5_ok 8 (by decide)) rfl rfl (Nat.le_of_ble_eq_true rfl) dX5_goToStart_16 (fun H locs hP _ hS => ?_)
    rw [zt_p4_8 (rfl : zt_kd 80 = 4), ← hσ4] at hP
    refine lv_aload_n hx hb dX5_goToStart_19 rfl (lv_at hl 0 rfl) ?_
    refine va_get (D := zt_D G) (ci := 4) (v := .int (σ4 80 4)) (C := RX5) (T := TX5) (N := 15) hx hb hts inX5 hown hK hP 80 (zt_a4 (rfl : zt_kd 80 = 4)) rfl 4 (by decide) fl25 (fun _ h9 => h9) rfl dX5_goToStart_20 ?_
    refine lv_iconst (v := (-1)) hx hb dX5_goToStart_23 (by decide) ?_
    refine lv_icmp_ne (tgt := 35) hx hb dX5_goToStart_24 (by decide) (fun c5 => ?_) (fun c5 => ?_)
    · have hf := (if_neg c5).symm.trans hf
      refine lv_aload_n hx hb dX5_goToStart_35 rfl (lv_at hl 0 rfl) ?_
      refine lv_aload_n hx hb dX5_goToStart_36 rfl (lv_at hl 0 rfl) ?_
      refine va_get (D := zt_D G) (ci := 4) (v := .ref (zt_ad G 1)) (C := RX5) (T := TX5) (N := 15) hx hb hts inX5 hown hK hP 80 (zt_a4 (rfl : zt_kd 80 = 4)) rfl 0 (by decide) fl29 (fun _ h9 => h9) rfl dX5_goToStart_37 ?_
      refine lv_iconst (v := 0) hx hb dX5_goToStart_40 (by decide) ?_
      obtain ⟨z8, hvv6, hf⟩ := zt_bd_some hf; obtain ⟨g9, hf⟩ := zt_gd_some hf; have hz8 := of_decide_eq_true g9
      refine va_callr (va_runV (As := [.int 0]) (rest := [.ref (zt_ad G 80)]) ⟨hx, hb, hml, hown, hts⟩ (m_X7_at l G (σ := σ4) hvv6) (cwV 1 hts gX5_goToStart_X7_at rfl rfl rfl zh_X7_at ⟨Nat.le_of_ble_eq_true rfl, Nat.le_of_ble_eq_true rfl⟩) ⟨zt_blind, va_recv hK hP (ci := 6) (q0 := 1) rfl (zt_a6 (rfl : zt_kd 1 = 6)), fun U hU hW => ⟨rfl, zt_go hE hP hS zt_id hU hW⟩⟩ rfl rfl hl.1 rfl (lv_room (Nat.le_of_ble_eq_true rfl)) dX5_goToStart_41 ⟨Nat.zero_le _, Nat.zero_le _⟩) hS (fun _ _ h => h) (fun _ h => h) (fun u a t H locs ht hvm hw hB _ _ hS => ?_)
      rw [hB.1]; have hB : zt_B G u t := hB.2; rw [hw] at hB; have hP := zt_B.P hB ht
      refine lv_aload_n hx hb dX5_goToStart_44 rfl (lv_at hl 0 rfl) ?_
      refine va_get (D := zt_D G) (ci := 4) (v := .int (σ4 80 4)) (C := RX5) (T := TX5) (N := 15) hx hb hts inX5 hown hK hP 80 (zt_a4 (rfl : zt_kd 80 = 4)) rfl 4 (by decide) fl25 (fun _ h9 => h9) rfl dX5_goToStart_45 ?_
      obtain ⟨v10, hvv10, hf⟩ := zt_bd_some hf
      refine va_calli (va_runS (As := [.int (σ4 80 4)]) (rest := [.ref (zt_ad G z8), .ref (zt_ad G 80)]) ⟨hx, hb, hml, hown, hts⟩ (m_X6_numberOfKey l G (σ := σ4) hvv10) (va_cwS 1 hts gX5_goToStart_X6_numberOfKey rfl rfl rfl zh_X6_numberOfKey ⟨Nat.le_of_ble_eq_true rfl, Nat.le_of_ble_eq_true rfl⟩) ⟨zt_blind, fun U hU hW => ⟨rfl, zt_go hE hP hS zt_id hU hW⟩⟩ rfl rfl hl.1 rfl (lv_room (Nat.le_of_ble_eq_true rfl)) dX5_goToStart_48 ⟨Nat.zero_le _, Nat.zero_le _⟩) hS (fun _ _ h => h) (fun _ h => h) (fun r u t H locs ht hvm hw hB _ _ hS => ?_)
      rw [hw.1]; have hB : zt_B G u t := hB; rw [hw.2] at hB; have hP := zt_B.P hB ht
      refine lv_aload_n hx hb dX5_goToStart_51 rfl (lv_at hl 0 rfl) ?_
      refine va_get (D := zt_D G) (ci := 4) (v := .int (σ4 80 3)) (C := RX5) (T := TX5) (N := 15) hx hb hts inX5 hown hK hP 80 (zt_a4 (rfl : zt_kd 80 = 4)) rfl 3 (by decide) fl104 (fun _ h9 => h9) rfl dX5_goToStart_52 ?_
      obtain ⟨v12, hvv12, hf⟩ := zt_bd_some hf
      refine va_calli (va_runV (As := [.int v10, .int (σ4 80 3)]) (rest := [.ref (zt_ad G 80)]) ⟨hx, hb, hml, hown, hts⟩ (m_X6_isGoodFor l G hz8 (σ := σ4) hvv12) (cwV 2 hts gX5_goToStart_X6_isGoodFor rfl rfl rfl zh_X6_isGoodFor ⟨Nat.le_of_ble_eq_true rfl, Nat.le_of_ble_eq_true rfl⟩) ⟨zt_blind, va_recv hK hP (ci := 5) (q0 := z8) rfl (zt_a5 hz8), fun U hU hW => ⟨rfl, zt_go hE hP hS zt_id hU hW⟩⟩ rfl rfl hl.1 rfl (lv_room (Nat.le_of_ble_eq_true rfl)) dX5_goToStart_55 ⟨Nat.zero_le _, Nat.zero_le _⟩) hS (fun _ _ h => h) (fun _ h => h) (fun r u t H locs ht hvm hw hB _ _ hS => ?_)
      rw [hw.1]; have hB : zt_B G u t := hB; rw [hw.2] at hB; have hP := zt_B.P hB ht
      refine lv_if_eq (tgt := 65) hx hb dX5_goToStart_58 (by decide) (fun c14 => ?_) (fun c14 => ?_)
      · have hf := (if_pos c14).symm.trans hf
        refine lv_iconst (v := 2) hx hb dX5_goToStart_65 (by decide) ?_
        exact B66 σ4 2 _ _ _ hf hP hS (lv_sub hl [] rfl)
      · have hf := (if_neg c14).symm.trans hf
        refine lv_iconst (v := 0) hx hb dX5_goToStart_61 (by decide) ?_
        refine lv_goto (tgt := 66) hx hb dX5_goToStart_62 (by decide) ?_
        exact B66 σ4 0 _ _ _ hf hP hS (lv_sub hl [] rfl)
    · have hf := (if_pos c5).symm.trans hf
      refine lv_aload_n hx hb dX5_goToStart_27 rfl (lv_at hl 0 rfl) ?_
      refine lv_iconst (v := 1) hx hb dX5_goToStart_28 (by decide) ?_
      obtain ⟨σ15, hσ15, hf⟩ := zt_lt_some hf
      refine va_put (D := zt_D G) (ci := 4) (v := .int 1) (ty := .int) (C := RX5) (T := TX5) (N := 15) hx hb hts inX5 tyX5 tyX5_ok nmX5 hown hK hP (zt_apart hE.1) hS 80 (zt_a4 (rfl : zt_kd 80 = 4)) rfl 13 (by decide) fl59 (fun _ h9 => h9) rfl (tyX5_ok 13 (by decide)) rfl rfl (Nat.le_of_ble_eq_true rfl) dX5_goToStart_29 (fun H locs hP _ hS => ?_)
      rw [zt_p4_13 (rfl : zt_kd 80 = 4), ← hσ15] at hP
      refine lv_goto (tgt := 69) hx hb dX5_goToStart_32 (by decide) ?_
      exact W.vret hx hb hr (fun t ht hW => ⟨⟨_, rfl, (Option.some.inj hf), zt_go hE hP hS zt_id ht hW⟩, hS.F ht⟩) hS.2.2 dX5_goToStart_69
  unfold f_X5_goToStart at hf
  refine lv_aload_n hx hb dX5_goToStart_0 rfl (lv_at hl 0 rfl) ?_
  refine lv_aload_n hx hb dX5_goToStart_1 rfl (lv_at hl 0 rfl) ?_
  refine va_get (D := zt_D G) (ci := 4) (v := .int (σ 80 5)) (C := RX5) (T := TX5) (N := 15) hx hb hts inX5 hown hK hP 80 (zt_a4 (rfl : zt_kd 80 = 4)) rfl 5 (by decide) fl82 (fun _ h9 => h9) rfl dX5_goToStart_2 ?_
  refine lv_if_eq (tgt := 12) hx hb dX5_goToStart_5 (by decide) (fun c1 => ?_) (fun c1 => ?_)
  · have hf := (if_pos c1).symm.trans hf
    refine lv_aload_n hx hb dX5_goToStart_12 rfl (lv_at hl 0 rfl) ?_
    obtain ⟨v2, hvv2, hf⟩ := zt_bd_some hf
    refine va_calli (va_runV (As := []) (rest := [.ref (zt_ad G 80)]) ⟨hx, hb, hml, hown, hts⟩ (m_X5_nearestKeptZone l G (σ := σ) hvv2) (cwV 0 hts gX5_goToStart_X5_nearestKeptZone rfl rfl rfl zh_X5_nearestKeptZone ⟨Nat.le_of_ble_eq_true rfl, Nat.le_of_ble_eq_true rfl⟩) ⟨zt_blind, va_recv hK hP (ci := 4) (q0 := 80) rfl (zt_a4 (rfl : zt_kd 80 = 4)), fun U hU hW => ⟨rfl, zt_go hE hP hS zt_id hU hW⟩⟩ rfl rfl hl.1 rfl (lv_room (Nat.le_of_ble_eq_true rfl)) dX5_goToStart_13 ⟨Nat.zero_le _, Nat.zero_le _⟩) hS (fun _ _ h => h) (fun _ h => h) (fun r u t H locs ht hvm hw hB _ _ hS => ?_)
    rw [hw.1]; have hB : zt_B G u t := hB; rw [hw.2] at hB; have hP := zt_B.P hB ht
    exact B16 σ v2 _ _ _ hf hP hS (lv_sub hl [0] rfl)
  · have hf := (if_neg c1).symm.trans hf
    refine lv_iconst (v := 0) hx hb dX5_goToStart_8 (by decide) ?_
    refine lv_goto (tgt := 16) hx hb dX5_goToStart_9 (by decide) ?_
    exact B16 σ 0 _ _ _ hf hP hS (lv_sub hl [0] rfl)

theorem zh_X5_keepPart : yX5_keepPart.cls = RX5 ∧ yX5_keepPart.cls ≠ "java/lang/invoke/MethodHandle" ∧ yX5_keepPart.cls ≠ "java/lang/invoke/VarHandle" ∧ (parseMethodDescriptor yX5_keepPart.desc).map (fun d => d.parameters.length) = some 0 := by decide +kernel
set_option maxHeartbeats 4000000 in
set_option maxRecDepth 100000 in
theorem m_X5_keepPart (l : Launch) (G : zt_G) {σ : zt_St} {σ1 : zt_St} (hf : f_X5_keepPart σ = some σ1) : zt_Mv l G yX5_keepPart wsX5_keepPart 3 74 [.ref (zt_ad G 80)] σ σ1 := by
  refine Met.ofW (cc := cX5_keepPart) (maxL := 1) (ret := none) (by decide) rfl ?_
  intro p e s m args below meth c s₁ B hml hv
  obtain ⟨rfl, hBB⟩ := hv
  have hE := zt_B.env hBB; have hK := hE.2.1; have hP := hBB.2.1
  have hx := B.exec; have hb := B.bytes; have hr := B.returns; have hts := atoms_spec (ws := wsX5_keepPart) B.pre
  have hown : s.vm.findClass RX5 = some m.cls := findClass_of_methodNamed B.named
  have hlocks := B.notSynchronized
  have hS : va_S (zt_A G) s.heap s.heap [] := va_S.rf
  have hl := lv_entry ([.ref (zt_ad G 80)]) (n := 1) (Nat.le_of_ble_eq_true rfl)
  rw [lg_entry_eq]
  generalize (lg_sl ([.ref (zt_ad G 80)]) ++ List.replicate (1 - (lg_sl ([.ref (zt_ad G 80)])).length) Slot.unset).toArray = ls at hl ⊢
  have hl : lv_has ls 1 [(0, .ref (zt_ad G 80))] := hl
  show W p l e (zt_R 3 74) s m ([.ref (zt_ad G 80)] : List Value).toArray below meth c s.heap [] 0 0 (MQ below (zt_Cv G σ1) ([.ref (zt_ad G 80)] : List Value).toArray s 0 0 (zt_A G)) (F0 m 0 ls [])
  have fl12 := hts (.fieldLink RX5 12 "ZoneTree$Resolver" "kept" "LZoneTree$Kept;") (List.mem_cons_of_mem _ (List.mem_append_left _ (List.mem_append_left _ (List.mem_append_left _ (List.mem_append_left _ (List.mem_of_getElem? (i := 2) rfl))))))
  have fl21 := hts (.fieldLink RX5 21 "ZoneTree$Resolver" "part" "LZoneTree$Answer;") (List.mem_cons_of_mem _ (List.mem_append_left _ (List.mem_append_left _ (List.mem_append_left _ (List.mem_append_left _ (List.mem_of_getElem? (i := 1) rfl))))))
  have fl40 := zt_Nw.use (args := ([.ref (zt_ad G 80)] : List Value).toArray) hE.2.2.1 (q := ("ZoneTree$Resolver", 40, "ZoneTree$Answer", "kind", "I", "ZoneTree")) (List.mem_of_getElem? (i := 13) rfl)
  have fl49 := zt_Nw.use (args := ([.ref (zt_ad G 80)] : List Value).toArray) hE.2.2.1 (q := ("ZoneTree$Resolver", 49, "ZoneTree$Answer", "life", "I", "ZoneTree")) (List.mem_of_getElem? (i := 20) rfl)
  have fl71 := hts (.fieldLink RX5 71 "ZoneTree$Resolver" "name" "I") (List.mem_cons_of_mem _ (List.mem_append_left _ (List.mem_append_left _ (List.mem_append_left _ (List.mem_append_left _ (List.mem_of_getElem? (i := 4) rfl))))))
  have fl79 := hts (.fieldLink RX5 79 "ZoneTree$Resolver" "sort" "I") (List.mem_cons_of_mem _ (List.mem_append_left _ (List.mem_append_left _ (List.mem_append_left _ (List.mem_append_left _ (List.mem_of_getElem? (i := 5) rfl))))))
  have fl82 := hts (.fieldLink RX5 82 "ZoneTree$Resolver" "isAnew" "Z") (List.mem_cons_of_mem _ (List.mem_append_left _ (List.mem_append_left _ (List.mem_append_left _ (List.mem_append_left _ (List.mem_of_getElem? (i := 0) rfl))))))
  have fl104 := hts (.fieldLink RX5 104 "ZoneTree$Resolver" "now" "I") (List.mem_cons_of_mem _ (List.mem_append_left _ (List.mem_append_left _ (List.mem_append_left _ (List.mem_append_left _ (List.mem_of_getElem? (i := 3) rfl))))))
  have fl172 := zt_Nw.use (args := ([.ref (zt_ad G 80)] : List Value).toArray) hE.2.2.1 (q := ("ZoneTree$Resolver", 172, "ZoneTree$Answer", "cutZone", "I", "ZoneTree")) (List.mem_of_getElem? (i := 26) rfl)
  have inX0 : ∀ w ∈ wsX00, w ∈ wsX5_keepPart := fun w h => (List.mem_cons_of_mem _ (List.mem_append_left _ (List.mem_append_right _ h)))
  have inX5 : ∀ w ∈ wsX50, w ∈ wsX5_keepPart := fun w h => (List.mem_cons_of_mem _ (List.mem_append_left _ (List.mem_append_left _ (List.mem_append_right _ h))))
  unfold f_X5_keepPart at hf
  refine lv_aload_n hx hb dX5_keepPart_0 rfl (lv_at hl 0 rfl) ?_
  refine va_get (D := zt_D G) (ci := 4) (v := .int (σ 80 5)) (C := RX5) (T := TX5) (N := 15) hx hb hts inX5 hown hK hP 80 (zt_a4 (rfl : zt_kd 80 = 4)) rfl 5 (by decide) fl82 (fun _ h9 => h9) rfl dX5_keepPart_1 ?_
  refine lv_if_ne (tgt := 18) hx hb dX5_keepPart_4 (by decide) (fun c1 => ?_) (fun c1 => ?_)
  · have hf := (if_neg c1).symm.trans hf
    exact W.vret hx hb hr (fun t ht hW => ⟨⟨_, rfl, (Option.some.inj hf), zt_go hE hP hS zt_id ht hW⟩, hS.F ht⟩) hS.2.2 dX5_keepPart_18
  · have hf := (if_pos c1).symm.trans hf
    refine lv_aload_n hx hb dX5_keepPart_7 rfl (lv_at hl 0 rfl) ?_
    refine va_get (D := zt_D G) (ci := 4) (v := .ref (zt_ad G 91)) (C := RX5) (T := TX5) (N := 15) hx hb hts inX5 hown hK hP 80 (zt_a4 (rfl : zt_kd 80 = 4)) rfl 2 (by decide) fl21 (fun _ h9 => h9) rfl dX5_keepPart_8 ?_
    refine va_getN (D := zt_D G) (ci := 0) (v := .int (σ 91 0)) (C := RX0) (T := TX0) (N := 8) hx hb hts inX0 hown hK hP 91 (zt_a0 (rfl : zt_kd 91 = 0)) rfl 0 (by decide) fl40 (fun _ h9 => h9) rfl dX5_keepPart_11 ?_
    refine lv_iconst (v := 5) hx hb dX5_keepPart_14 (by decide) ?_
    refine lv_icmp_ne (tgt := 19) hx hb dX5_keepPart_15 (by decide) (fun c2 => ?_) (fun c2 => ?_)
    · have hf := (if_neg c2).symm.trans hf
      refine lv_aload_n hx hb dX5_keepPart_19 rfl (lv_at hl 0 rfl) ?_
      refine va_get (D := zt_D G) (ci := 4) (v := .ref (zt_ad G 91)) (C := RX5) (T := TX5) (N := 15) hx hb hts inX5 hown hK hP 80 (zt_a4 (rfl : zt_kd 80 = 4)) rfl 2 (by decide) fl21 (fun _ h9 => h9) rfl dX5_keepPart_20 ?_
      refine va_getN (D := zt_D G) (ci := 0) (v := .int (σ 91 0)) (C := RX0) (T := TX0) (N := 8) hx hb hts inX0 hown hK hP 91 (zt_a0 (rfl : zt_kd 91 = 0)) rfl 0 (by decide) fl40 (fun _ h9 => h9) rfl dX5_keepPart_23 ?_
      refine lv_iconst (v := 3) hx hb dX5_keepPart_26 (by decide) ?_
      refine lv_icmp_ne (tgt := 58) hx hb dX5_keepPart_27 (by decide) (fun c3 => ?_) (fun c3 => ?_)
      · have hf := (if_neg c3).symm.trans hf
        refine lv_aload_n hx hb dX5_keepPart_58 rfl (lv_at hl 0 rfl) ?_
        refine va_get (D := zt_D G) (ci := 4) (v := .ref (zt_ad G 81)) (C := RX5) (T := TX5) (N := 15) hx hb hts inX5 hown hK hP 80 (zt_a4 (rfl : zt_kd 80 = 4)) rfl 1 (by decide) fl12 (fun _ h9 => h9) rfl dX5_keepPart_59 ?_
        refine lv_aload_n hx hb dX5_keepPart_62 rfl (lv_at hl 0 rfl) ?_
        refine va_get (D := zt_D G) (ci := 4) (v := .int (σ 80 6)) (C := RX5) (T := TX5) (N := 15) hx hb hts inX5 hown hK hP 80 (zt_a4 (rfl : zt_kd 80 = 4)) rfl 6 (by decide) fl71 (fun _ h9 => h9) rfl dX5_keepPart_63 ?_
        refine lv_aload_n hx hb dX5_keepPart_66 rfl (lv_at hl 0 rfl) ?_
        refine va_get (D := zt_D G) (ci := 4) (v := .int (σ 80 7)) (C := RX5) (T := TX5) (N := 15) hx hb hts inX5 hown hK hP 80 (zt_a4 (rfl : zt_kd 80 = 4)) rfl 7 (by decide) fl79 (fun _ h9 => h9) rfl dX5_keepPart_67 ?_
        refine lv_aload_n hx hb dX5_keepPart_70 rfl (lv_at hl 0 rfl) ?_
        refine va_get (D := zt_D G) (ci := 4) (v := .ref (zt_ad G 91)) (C := RX5) (T := TX5) (N := 15) hx hb hts inX5 hown hK hP 80 (zt_a4 (rfl : zt_kd 80 = 4)) rfl 2 (by decide) fl21 (fun _ h9 => h9) rfl dX5_keepPart_71 ?_
        refine lv_aload_n hx hb dX5_keepPart_74 rfl (lv_at hl 0 rfl) ?_
        refine va_get (D := zt_D G) (ci := 4) (v := .int (σ 80 3)) (C := RX5) (T := TX5) (N := 15) hx hb hts inX5 hown hK hP 80 (zt_a4 (rfl : zt_kd 80 = 4)) rfl 3 (by decide) fl104 (fun _ h9 => h9) rfl dX5_keepPart_75 ?_
        obtain ⟨σ5, hvv4, hf⟩ := zt_bd_some hf
        refine va_callv (va_runV (As := [.int (σ 80 6), .int (σ 80 7), .ref (zt_ad G 91), .int (σ 80 3)]) (rest := []) ⟨hx, hb, hml, hown, hts⟩ (m_X2_keepAnswer l G (rfl : zt_kd 91 = 0) (σ := σ) hvv4) (cwV 4 hts gX5_keepPart_X2_keepAnswer rfl rfl rfl zh_X2_keepAnswer ⟨Nat.le_of_ble_eq_true rfl, Nat.le_of_ble_eq_true rfl⟩) ⟨zt_blind, va_recv hK hP (ci := 2) (q0 := 81) rfl (zt_a2 (rfl : zt_kd 81 = 2)), fun U hU hW => ⟨rfl, zt_go hE hP hS zt_id hU hW⟩⟩ rfl rfl hl.1 rfl (lv_room (Nat.le_of_ble_eq_true rfl)) dX5_keepPart_78 ⟨Nat.zero_le _, Nat.zero_le _⟩) hS (fun _ _ h => h) (fun _ h => h) (fun u t H locs ht hvm hw hB _ _ hS => ?_)
        have hB : zt_B G u t := hB; rw [hw] at hB; have hP := zt_B.P hB ht
        exact W.vret hx hb hr (fun t ht hW => ⟨⟨_, rfl, (Option.some.inj hf), zt_go hE hP hS zt_id ht hW⟩, hS.F ht⟩) hS.2.2 dX5_keepPart_81
      · have hf := (if_pos c3).symm.trans hf
        refine lv_aload_n hx hb dX5_keepPart_30 rfl (lv_at hl 0 rfl) ?_
        refine va_get (D := zt_D G) (ci := 4) (v := .ref (zt_ad G 81)) (C := RX5) (T := TX5) (N := 15) hx hb hts inX5 hown hK hP 80 (zt_a4 (rfl : zt_kd 80 = 4)) rfl 1 (by decide) fl12 (fun _ h9 => h9) rfl dX5_keepPart_31 ?_
        refine lv_aload_n hx hb dX5_keepPart_34 rfl (lv_at hl 0 rfl) ?_
        refine va_get (D := zt_D G) (ci := 4) (v := .ref (zt_ad G 91)) (C := RX5) (T := TX5) (N := 15) hx hb hts inX5 hown hK hP 80 (zt_a4 (rfl : zt_kd 80 = 4)) rfl 2 (by decide) fl21 (fun _ h9 => h9) rfl dX5_keepPart_35 ?_
        refine va_getN (D := zt_D G) (ci := 0) (v := .int (σ 91 6)) (C := RX0) (T := TX0) (N := 8) hx hb hts inX0 hown hK hP 91 (zt_a0 (rfl : zt_kd 91 = 0)) rfl 6 (by decide) fl172 (fun _ h9 => h9) rfl dX5_keepPart_38 ?_
        refine lv_aload_n hx hb dX5_keepPart_41 rfl (lv_at hl 0 rfl) ?_
        refine va_get (D := zt_D G) (ci := 4) (v := .ref (zt_ad G 91)) (C := RX5) (T := TX5) (N := 15) hx hb hts inX5 hown hK hP 80 (zt_a4 (rfl : zt_kd 80 = 4)) rfl 2 (by decide) fl21 (fun _ h9 => h9) rfl dX5_keepPart_42 ?_
        refine va_getN (D := zt_D G) (ci := 0) (v := .int (σ 91 3)) (C := RX0) (T := TX0) (N := 8) hx hb hts inX0 hown hK hP 91 (zt_a0 (rfl : zt_kd 91 = 0)) rfl 3 (by decide) fl49 (fun _ h9 => h9) rfl dX5_keepPart_45 ?_
        refine lv_aload_n hx hb dX5_keepPart_48 rfl (lv_at hl 0 rfl) ?_
        refine va_get (D := zt_D G) (ci := 4) (v := .int (σ 80 3)) (C := RX5) (T := TX5) (N := 15) hx hb hts inX5 hown hK hP 80 (zt_a4 (rfl : zt_kd 80 = 4)) rfl 3 (by decide) fl104 (fun _ h9 => h9) rfl dX5_keepPart_49 ?_
        obtain ⟨σ7, hvv6, hf⟩ := zt_bd_some hf
        refine va_callv (va_runV (As := [.int (σ 91 6), .int (σ 91 3), .int (σ 80 3)]) (rest := []) ⟨hx, hb, hml, hown, hts⟩ (m_X2_keepZone l G (σ := σ) hvv6) (cwV 3 hts gX5_keepPart_X2_keepZone rfl rfl rfl zh_X2_keepZone ⟨Nat.le_of_ble_eq_true rfl, Nat.le_of_ble_eq_true rfl⟩) ⟨zt_blind, va_recv hK hP (ci := 2) (q0 := 81) rfl (zt_a2 (rfl : zt_kd 81 = 2)), fun U hU hW => ⟨rfl, zt_go hE hP hS zt_id hU hW⟩⟩ rfl rfl hl.1 rfl (lv_room (Nat.le_of_ble_eq_true rfl)) dX5_keepPart_52 ⟨Nat.zero_le _, Nat.zero_le _⟩) hS (fun _ _ h => h) (fun _ h => h) (fun u t H locs ht hvm hw hB _ _ hS => ?_)
        have hB : zt_B G u t := hB; rw [hw] at hB; have hP := zt_B.P hB ht
        refine lv_goto (tgt := 81) hx hb dX5_keepPart_55 (by decide) ?_
        exact W.vret hx hb hr (fun t ht hW => ⟨⟨_, rfl, (Option.some.inj hf), zt_go hE hP hS zt_id ht hW⟩, hS.F ht⟩) hS.2.2 dX5_keepPart_81
    · have hf := (if_pos c2).symm.trans hf
      exact W.vret hx hb hr (fun t ht hW => ⟨⟨_, rfl, (Option.some.inj hf), zt_go hE hP hS zt_id ht hW⟩, hS.F ht⟩) hS.2.2 dX5_keepPart_18

theorem zh_X5_takeOldPart : yX5_takeOldPart.cls = RX5 ∧ yX5_takeOldPart.cls ≠ "java/lang/invoke/MethodHandle" ∧ yX5_takeOldPart.cls ≠ "java/lang/invoke/VarHandle" ∧ (parseMethodDescriptor yX5_takeOldPart.desc).map (fun d => d.parameters.length) = some 0 := by decide +kernel
set_option maxHeartbeats 4000000 in
set_option maxRecDepth 100000 in
theorem m_X5_takeOldPart (l : Launch) (G : zt_G) {σ : zt_St} {σ1 : zt_St} (hf : f_X5_takeOldPart σ = some σ1) : zt_Mv l G yX5_takeOldPart wsX5_takeOldPart 2 47 [.ref (zt_ad G 80)] σ σ1 := by
  refine Met.ofW (cc := cX5_takeOldPart) (maxL := 2) (ret := none) (by decide) rfl ?_
  intro p e s m args below meth c s₁ B hml hv
  obtain ⟨rfl, hBB⟩ := hv
  have hE := zt_B.env hBB; have hK := hE.2.1; have hP := hBB.2.1
  have hx := B.exec; have hb := B.bytes; have hr := B.returns; have hts := atoms_spec (ws := wsX5_takeOldPart) B.pre
  have hown : s.vm.findClass RX5 = some m.cls := findClass_of_methodNamed B.named
  have hlocks := B.notSynchronized
  have hS : va_S (zt_A G) s.heap s.heap [] := va_S.rf
  have hl := lv_entry ([.ref (zt_ad G 80)]) (n := 2) (Nat.le_of_ble_eq_true rfl)
  rw [lg_entry_eq]
  generalize (lg_sl ([.ref (zt_ad G 80)]) ++ List.replicate (2 - (lg_sl ([.ref (zt_ad G 80)])).length) Slot.unset).toArray = ls at hl ⊢
  have hl : lv_has ls 2 [(0, .ref (zt_ad G 80))] := hl
  show W p l e (zt_R 2 47) s m ([.ref (zt_ad G 80)] : List Value).toArray below meth c s.heap [] 0 0 (MQ below (zt_Cv G σ1) ([.ref (zt_ad G 80)] : List Value).toArray s 0 0 (zt_A G)) (F0 m 0 ls [])
  have fl12 := hts (.fieldLink RX5 12 "ZoneTree$Resolver" "kept" "LZoneTree$Kept;") (List.mem_cons_of_mem _ (List.mem_append_left _ (List.mem_append_left _ (List.mem_append_left _ (List.mem_append_left _ (List.mem_of_getElem? (i := 1) rfl))))))
  have fl21 := hts (.fieldLink RX5 21 "ZoneTree$Resolver" "part" "LZoneTree$Answer;") (List.mem_cons_of_mem _ (List.mem_append_left _ (List.mem_append_left _ (List.mem_append_left _ (List.mem_append_left _ (List.mem_of_getElem? (i := 5) rfl))))))
  have fl71 := hts (.fieldLink RX5 71 "ZoneTree$Resolver" "name" "I") (List.mem_cons_of_mem _ (List.mem_append_left _ (List.mem_append_left _ (List.mem_append_left _ (List.mem_append_left _ (List.mem_of_getElem? (i := 2) rfl))))))
  have fl79 := hts (.fieldLink RX5 79 "ZoneTree$Resolver" "sort" "I") (List.mem_cons_of_mem _ (List.mem_append_left _ (List.mem_append_left _ (List.mem_append_left _ (List.mem_append_left _ (List.mem_of_getElem? (i := 3) rfl))))))
  have fl82 := hts (.fieldLink RX5 82 "ZoneTree$Resolver" "isAnew" "Z") (List.mem_cons_of_mem _ (List.mem_append_left _ (List.mem_append_left _ (List.mem_append_left _ (List.mem_append_left _ (List.mem_of_getElem? (i := 0) rfl))))))
  have fl89 := hts (.fieldLink RX5 89 "ZoneTree$Resolver" "isOld" "Z") (List.mem_cons_of_mem _ (List.mem_append_left _ (List.mem_append_left _ (List.mem_append_left _ (List.mem_append_left _ (List.mem_of_getElem? (i := 6) rfl))))))
  have fl104 := hts (.fieldLink RX5 104 "ZoneTree$Resolver" "now" "I") (List.mem_cons_of_mem _ (List.mem_append_left _ (List.mem_append_left _ (List.mem_append_left _ (List.mem_append_left _ (List.mem_of_getElem? (i := 4) rfl))))))
  have inX5 : ∀ w ∈ wsX50, w ∈ wsX5_takeOldPart := fun w h => (List.mem_cons_of_mem _ (List.mem_append_left _ (List.mem_append_left _ (List.mem_append_right _ h))))
  have B26 : ∀ (σ : zt_St) (y0 : Int32) (H : Heap) (locs : List Loc) (ls : Array Slot), f_X5_takeOldPart_26 σ y0 = some σ1 → va_P (zt_D G) vwCl (zt_ww G σ) H → va_S (zt_A G) s.heap H locs → lv_has ls 2 [(0, .ref (zt_ad G 80))] → W p l e (zt_R 2 47) s m ([.ref (zt_ad G 80)] : List Value).toArray below meth c H locs 0 0 (MQ below (zt_Cv G σ1) ([.ref (zt_ad G 80)] : List Value).toArray s 0 0 (zt_A G)) (F0 m 26 ls [.int y0]) := by
    intro σ y0 H locs ls hf hP hS hl
    unfold f_X5_takeOldPart_26 at hf
    refine lv_istore_n (lv' := [(1, .int y0), (0, .ref (zt_ad G 80))]) hx hb dX5_takeOldPart_26 rfl hl (by decide) rfl (fun ls hl => ?_)
    refine lv_aload_n hx hb dX5_takeOldPart_27 rfl (lv_at hl 1 rfl) ?_
    refine va_get (D := zt_D G) (ci := 4) (v := .ref (zt_ad G 81)) (C := RX5) (T := TX5) (N := 15) hx hb hts inX5 hown hK hP 80 (zt_a4 (rfl : zt_kd 80 = 4)) rfl 1 (by decide) fl12 (fun _ h9 => h9) rfl dX5_takeOldPart_28 ?_
    refine lv_iload_n hx hb dX5_takeOldPart_31 rfl (lv_at hl 0 rfl) ?_
    refine lv_aload_n hx hb dX5_takeOldPart_32 rfl (lv_at hl 1 rfl) ?_
    refine va_get (D := zt_D G) (ci := 4) (v := .int (σ 80 3)) (C := RX5) (T := TX5) (N := 15) hx hb hts inX5 hown hK hP 80 (zt_a4 (rfl : zt_kd 80 = 4)) rfl 3 (by decide) fl104 (fun _ h9 => h9) rfl dX5_takeOldPart_33 ?_
    obtain ⟨v4, hvv4, hf⟩ := zt_bd_some hf
    refine va_calli (va_runV (As := [.int y0, .int (σ 80 3)]) (rest := []) ⟨hx, hb, hml, hown, hts⟩ (m_X2_isUsableAsOld l G (σ := σ) hvv4) (cwV 2 hts gX5_takeOldPart_X2_isUsableAsOld rfl rfl rfl zh_X2_isUsableAsOld ⟨Nat.le_of_ble_eq_true rfl, Nat.le_of_ble_eq_true rfl⟩) ⟨zt_blind, va_recv hK hP (ci := 2) (q0 := 81) rfl (zt_a2 (rfl : zt_kd 81 = 2)), fun U hU hW => ⟨rfl, zt_go hE hP hS zt_id hU hW⟩⟩ rfl rfl hl.1 rfl (lv_room (Nat.le_of_ble_eq_true rfl)) dX5_takeOldPart_36 ⟨Nat.zero_le _, Nat.zero_le _⟩) hS (fun _ _ h => h) (fun _ h => h) (fun r u t H locs ht hvm hw hB _ _ hS => ?_)
    rw [hw.1]; have hB : zt_B G u t := hB; rw [hw.2] at hB; have hP := zt_B.P hB ht
    refine lv_if_eq (tgt := 66) hx hb dX5_takeOldPart_39 (by decide) (fun c6 => ?_) (fun c6 => ?_)
    · have hf := (if_pos c6).symm.trans hf
      refine lv_aload_n hx hb dX5_takeOldPart_66 rfl (lv_at hl 1 rfl) ?_
      refine va_get (D := zt_D G) (ci := 4) (v := .ref (zt_ad G 91)) (C := RX5) (T := TX5) (N := 15) hx hb hts inX5 hown hK hP 80 (zt_a4 (rfl : zt_kd 80 = 4)) rfl 2 (by decide) fl21 (fun _ h9 => h9) rfl dX5_takeOldPart_67 ?_
      refine lv_bipush (v := 6) hx hb dX5_takeOldPart_70 (by decide +kernel) ?_
      refine lv_iconst (v := (-1)) hx hb dX5_takeOldPart_72 (by decide) ?_
      refine lv_iconst (v := (-1)) hx hb dX5_takeOldPart_73 (by decide) ?_
      refine lv_iconst (v := 0) hx hb dX5_takeOldPart_74 (by decide) ?_
      obtain ⟨σ8, hvv7, hf⟩ := zt_bd_some hf
      refine va_callv (va_runV (As := [.int 6, .int (-1), .int (-1), .int 0]) (rest := []) ⟨hx, hb, hml, hown, hts⟩ (m_X0_tell l G (rfl : zt_kd 91 = 0) (σ := σ) hvv7) (cwV 4 hts gX5_takeOldPart_X0_tell rfl rfl rfl zh_X0_tell ⟨Nat.le_of_ble_eq_true rfl, Nat.le_of_ble_eq_true rfl⟩) ⟨zt_blind, va_recv hK hP (ci := 0) (q0 := 91) rfl (zt_a0 (rfl : zt_kd 91 = 0)), fun U hU hW => ⟨rfl, zt_go hE hP hS zt_id hU hW⟩⟩ rfl rfl hl.1 rfl (lv_room (Nat.le_of_ble_eq_true rfl)) dX5_takeOldPart_75 ⟨Nat.zero_le _, Nat.zero_le _⟩) hS (fun _ _ h => h) (fun _ h => h) (fun u t H locs ht hvm hw hB _ _ hS => ?_)
      have hB : zt_B G u t := hB; rw [hw] at hB; have hP := zt_B.P hB ht
      exact W.vret hx hb hr (fun t ht hW => ⟨⟨_, rfl, (Option.some.inj hf), zt_go hE hP hS zt_id ht hW⟩, hS.F ht⟩) hS.2.2 dX5_takeOldPart_78
    · have hf := (if_neg c6).symm.trans hf
      refine lv_aload_n hx hb dX5_takeOldPart_42 rfl (lv_at hl 1 rfl) ?_
      refine va_get (D := zt_D G) (ci := 4) (v := .ref (zt_ad G 81)) (C := RX5) (T := TX5) (N := 15) hx hb hts inX5 hown hK hP 80 (zt_a4 (rfl : zt_kd 80 = 4)) rfl 1 (by decide) fl12 (fun _ h9 => h9) rfl dX5_takeOldPart_43 ?_
      refine lv_iload_n hx hb dX5_takeOldPart_46 rfl (lv_at hl 0 rfl) ?_
      refine lv_aload_n hx hb dX5_takeOldPart_47 rfl (lv_at hl 1 rfl) ?_
      refine va_get (D := zt_D G) (ci := 4) (v := .int (σ 80 3)) (C := RX5) (T := TX5) (N := 15) hx hb hts inX5 hown hK hP 80 (zt_a4 (rfl : zt_kd 80 = 4)) rfl 3 (by decide) fl104 (fun _ h9 => h9) rfl dX5_takeOldPart_48 ?_
      refine lv_aload_n hx hb dX5_takeOldPart_51 rfl (lv_at hl 1 rfl) ?_
      refine va_get (D := zt_D G) (ci := 4) (v := .ref (zt_ad G 91)) (C := RX5) (T := TX5) (N := 15) hx hb hts inX5 hown hK hP 80 (zt_a4 (rfl : zt_kd 80 = 4)) rfl 2 (by decide) fl21 (fun _ h9 => h9) rfl dX5_takeOldPart_52 ?_
      obtain ⟨σ10, hvv9, hf⟩ := zt_bd_some hf
      refine va_callv (va_runV (As := [.int y0, .int (σ 80 3), .ref (zt_ad G 91)]) (rest := []) ⟨hx, hb, hml, hown, hts⟩ (m_X2_read l G (rfl : zt_kd 91 = 0) (σ := σ) hvv9) (cwV 3 hts gX5_takeOldPart_X2_read rfl rfl rfl zh_X2_read ⟨Nat.le_of_ble_eq_true rfl, Nat.le_of_ble_eq_true rfl⟩) ⟨zt_blind, va_recv hK hP (ci := 2) (q0 := 81) rfl (zt_a2 (rfl : zt_kd 81 = 2)), fun U hU hW => ⟨rfl, zt_go hE hP hS zt_id hU hW⟩⟩ rfl rfl hl.1 rfl (lv_room (Nat.le_of_ble_eq_true rfl)) dX5_takeOldPart_55 ⟨Nat.zero_le _, Nat.zero_le _⟩) hS (fun _ _ h => h) (fun _ h => h) (fun u t H locs ht hvm hw hB _ _ hS => ?_)
      have hB : zt_B G u t := hB; rw [hw] at hB; have hP := zt_B.P hB ht
      refine lv_aload_n hx hb dX5_takeOldPart_58 rfl (lv_at hl 1 rfl) ?_
      refine lv_iconst (v := 1) hx hb dX5_takeOldPart_59 (by decide) ?_
      obtain ⟨σ11, hσ11, hf⟩ := zt_lt_some hf
      refine va_put (D := zt_D G) (ci := 4) (v := .int 1) (ty := .boolean) (C := RX5) (T := TX5) (N := 15) hx hb hts inX5 tyX5 tyX5_ok nmX5 hown hK hP (zt_apart hE.1) hS 80 (zt_a4 (rfl : zt_kd 80 = 4)) rfl 12 (by decide) fl89 (fun _ h9 => h9) rfl (tyX5_ok 12 (by decide)) (zt_bn (by decide)).1 (zt_bn (by decide)).2 (Nat.le_of_ble_eq_true rfl) dX5_takeOldPart_60 (fun H locs hP _ hS => ?_)
      rw [zt_p4_12 (rfl : zt_kd 80 = 4), ← hσ11] at hP
      refine lv_goto (tgt := 78) hx hb dX5_takeOldPart_63 (by decide) ?_
      exact W.vret hx hb hr (fun t ht hW => ⟨⟨_, rfl, (Option.some.inj hf), zt_go hE hP hS zt_id ht hW⟩, hS.F ht⟩) hS.2.2 dX5_takeOldPart_78
  unfold f_X5_takeOldPart at hf
  refine lv_aload_n hx hb dX5_takeOldPart_0 rfl (lv_at hl 0 rfl) ?_
  refine va_get (D := zt_D G) (ci := 4) (v := .int (σ 80 5)) (C := RX5) (T := TX5) (N := 15) hx hb hts inX5 hown hK hP 80 (zt_a4 (rfl : zt_kd 80 = 4)) rfl 5 (by decide) fl82 (fun _ h9 => h9) rfl dX5_takeOldPart_1 ?_
  refine lv_if_eq (tgt := 11) hx hb dX5_takeOldPart_4 (by decide) (fun c1 => ?_) (fun c1 => ?_)
  · have hf := (if_pos c1).symm.trans hf
    refine lv_aload_n hx hb dX5_takeOldPart_11 rfl (lv_at hl 0 rfl) ?_
    refine va_get (D := zt_D G) (ci := 4) (v := .ref (zt_ad G 81)) (C := RX5) (T := TX5) (N := 15) hx hb hts inX5 hown hK hP 80 (zt_a4 (rfl : zt_kd 80 = 4)) rfl 1 (by decide) fl12 (fun _ h9 => h9) rfl dX5_takeOldPart_12 ?_
    refine lv_aload_n hx hb dX5_takeOldPart_15 rfl (lv_at hl 0 rfl) ?_
    refine va_get (D := zt_D G) (ci := 4) (v := .int (σ 80 6)) (C := RX5) (T := TX5) (N := 15) hx hb hts inX5 hown hK hP 80 (zt_a4 (rfl : zt_kd 80 = 4)) rfl 6 (by decide) fl71 (fun _ h9 => h9) rfl dX5_takeOldPart_16 ?_
    refine lv_aload_n hx hb dX5_takeOldPart_19 rfl (lv_at hl 0 rfl) ?_
    refine va_get (D := zt_D G) (ci := 4) (v := .int (σ 80 7)) (C := RX5) (T := TX5) (N := 15) hx hb hts inX5 hown hK hP 80 (zt_a4 (rfl : zt_kd 80 = 4)) rfl 7 (by decide) fl79 (fun _ h9 => h9) rfl dX5_takeOldPart_20 ?_
    obtain ⟨v2, hvv2, hf⟩ := zt_bd_some hf
    refine va_calli (va_runV (As := [.int (σ 80 6), .int (σ 80 7)]) (rest := []) ⟨hx, hb, hml, hown, hts⟩ (m_X2_rowOf l G (σ := σ) hvv2) (cwV 2 hts gX5_takeOldPart_X2_rowOf rfl rfl rfl zh_X2_rowOf ⟨Nat.le_of_ble_eq_true rfl, Nat.le_of_ble_eq_true rfl⟩) ⟨zt_blind, va_recv hK hP (ci := 2) (q0 := 81) rfl (zt_a2 (rfl : zt_kd 81 = 2)), fun U hU hW => ⟨rfl, zt_go hE hP hS zt_id hU hW⟩⟩ rfl rfl hl.1 rfl (lv_room (Nat.le_of_ble_eq_true rfl)) dX5_takeOldPart_23 ⟨Nat.zero_le _, Nat.zero_le _⟩) hS (fun _ _ h => h) (fun _ h => h) (fun r u t H locs ht hvm hw hB _ _ hS => ?_)
    rw [hw.1]; have hB : zt_B G u t := hB; rw [hw.2] at hB; have hP := zt_B.P hB ht
    exact B26 σ v2 _ _ _ hf hP hS (lv_sub hl [0] rfl)
  · have hf := (if_neg c1).symm.trans hf
    refine lv_iconst (v := (-1)) hx hb dX5_takeOldPart_7 (by decide) ?_
    refine lv_goto (tgt := 26) hx hb dX5_takeOldPart_8 (by decide) ?_
    exact B26 σ (-1) _ _ _ hf hP hS (lv_sub hl [0] rfl)

theorem zh_X5_askZone : yX5_askZone.cls = RX5 ∧ yX5_askZone.cls ≠ "java/lang/invoke/MethodHandle" ∧ yX5_askZone.cls ≠ "java/lang/invoke/VarHandle" ∧ (parseMethodDescriptor yX5_askZone.desc).map (fun d => d.parameters.length) = some 0 := by decide +kernel
set_option maxHeartbeats 4000000 in
set_option maxRecDepth 100000 in
theorem m_X5_askZone (l : Launch) (G : zt_G) {σ : zt_St} {σ1 : zt_St} (hf : f_X5_askZone σ = some σ1) : zt_Mv l G yX5_askZone wsX5_askZone 4 104 [.ref (zt_ad G 80)] σ σ1 := by
  refine Met.ofW (cc := cX5_askZone) (maxL := 2) (ret := none) (by decide) rfl ?_
  intro p e s m args below meth c s₁ B hml hv
  obtain ⟨rfl, hBB⟩ := hv
  have hE := zt_B.env hBB; have hK := hE.2.1; have hP := hBB.2.1
  have hx := B.exec; have hb := B.bytes; have hr := B.returns; have hts := atoms_spec (ws := wsX5_askZone) B.pre
  have hown : s.vm.findClass RX5 = some m.cls := findClass_of_methodNamed B.named
  have hlocks := B.notSynchronized
  have hS : va_S (zt_A G) s.heap s.heap [] := va_S.rf
  have hl := lv_entry ([.ref (zt_ad G 80)]) (n := 2) (Nat.le_of_ble_eq_true rfl)
  rw [lg_entry_eq]
  generalize (lg_sl ([.ref (zt_ad G 80)]) ++ List.replicate (2 - (lg_sl ([.ref (zt_ad G 80)])).length) Slot.unset).toArray = ls at hl ⊢
  have hl : lv_has ls 2 [(0, .ref (zt_ad G 80))] := hl
  show W p l e (zt_R 4 104) s m ([.ref (zt_ad G 80)] : List Value).toArray below meth c s.heap [] 0 0 (MQ below (zt_Cv G σ1) ([.ref (zt_ad G 80)] : List Value).toArray s 0 0 (zt_A G)) (F0 m 0 ls [])
  have fl21 := hts (.fieldLink RX5 21 "ZoneTree$Resolver" "part" "LZoneTree$Answer;") (List.mem_cons_of_mem _ (List.mem_append_left _ (List.mem_append_left _ (List.mem_append_left _ (List.mem_append_left _ (List.mem_append_left _ (List.mem_append_left _ (List.mem_append_left _ (List.mem_of_getElem? (i := 5) rfl)))))))))
  have fl29 := hts (.fieldLink RX5 29 "ZoneTree$Resolver" "zones" "LZoneTree$Zones;") (List.mem_cons_of_mem _ (List.mem_append_left _ (List.mem_append_left _ (List.mem_append_left _ (List.mem_append_left _ (List.mem_append_left _ (List.mem_append_left _ (List.mem_append_left _ (List.mem_of_getElem? (i := 1) rfl)))))))))
  have fl71 := hts (.fieldLink RX5 71 "ZoneTree$Resolver" "name" "I") (List.mem_cons_of_mem _ (List.mem_append_left _ (List.mem_append_left _ (List.mem_append_left _ (List.mem_append_left _ (List.mem_append_left _ (List.mem_append_left _ (List.mem_append_left _ (List.mem_of_getElem? (i := 3) rfl)))))))))
  have fl72 := hts (.fieldLink RX5 72 "ZoneTree$Resolver" "zone" "I") (List.mem_cons_of_mem _ (List.mem_append_left _ (List.mem_append_left _ (List.mem_append_left _ (List.mem_append_left _ (List.mem_append_left _ (List.mem_append_left _ (List.mem_append_left _ (List.mem_of_getElem? (i := 2) rfl)))))))))
  have fl79 := hts (.fieldLink RX5 79 "ZoneTree$Resolver" "sort" "I") (List.mem_cons_of_mem _ (List.mem_append_left _ (List.mem_append_left _ (List.mem_append_left _ (List.mem_append_left _ (List.mem_append_left _ (List.mem_append_left _ (List.mem_append_left _ (List.mem_of_getElem? (i := 4) rfl)))))))))
  have fl86 := hts (.fieldLink RX5 86 "ZoneTree$Resolver" "questions" "I") (List.mem_cons_of_mem _ (List.mem_append_left _ (List.mem_append_left _ (List.mem_append_left _ (List.mem_append_left _ (List.mem_append_left _ (List.mem_append_left _ (List.mem_append_left _ (List.mem_of_getElem? (i := 0) rfl)))))))))
  have inX5 : ∀ w ∈ wsX50, w ∈ wsX5_askZone := fun w h => (List.mem_cons_of_mem _ (List.mem_append_left _ (List.mem_append_left _ (List.mem_append_left _ (List.mem_append_left _ (List.mem_append_left _ (List.mem_append_right _ h)))))))
  unfold f_X5_askZone at hf
  refine lv_aload_n hx hb dX5_askZone_0 rfl (lv_at hl 0 rfl) ?_
  refine lv_dup hx hb dX5_askZone_1 rfl ?_
  refine va_get (D := zt_D G) (ci := 4) (v := .int (σ 80 10)) (C := RX5) (T := TX5) (N := 15) hx hb hts inX5 hown hK hP 80 (zt_a4 (rfl : zt_kd 80 = 4)) rfl 10 (by decide) fl86 (fun _ h9 => h9) rfl dX5_askZone_2 ?_
  refine lv_iconst (v := 1) hx hb dX5_askZone_5 (by decide) ?_
  refine lv_iadd hx hb dX5_askZone_6 ?_
  obtain ⟨σ1, hσ1, hf⟩ := zt_lt_some hf
  refine va_put (D := zt_D G) (ci := 4) (v := .int ((σ 80 10) + 1)) (ty := .int) (C := RX5) (T := TX5) (N := 15) hx hb hts inX5 tyX5 tyX5_ok nmX5 hown hK hP (zt_apart hE.1) hS 80 (zt_a4 (rfl : zt_kd 80 = 4)) rfl 10 (by decide) fl86 (fun _ h9 => h9) rfl (tyX5_ok 10 (by decide)) rfl rfl (Nat.le_of_ble_eq_true rfl) dX5_askZone_7 (fun H locs hP _ hS => ?_)
  rw [zt_p4_10 (rfl : zt_kd 80 = 4), ← hσ1] at hP
  refine lv_aload_n hx hb dX5_askZone_10 rfl (lv_at hl 0 rfl) ?_
  refine va_get (D := zt_D G) (ci := 4) (v := .ref (zt_ad G 1)) (C := RX5) (T := TX5) (N := 15) hx hb hts inX5 hown hK hP 80 (zt_a4 (rfl : zt_kd 80 = 4)) rfl 0 (by decide) fl29 (fun _ h9 => h9) rfl dX5_askZone_11 ?_
  refine lv_aload_n hx hb dX5_askZone_14 rfl (lv_at hl 0 rfl) ?_
  refine va_get (D := zt_D G) (ci := 4) (v := .int (σ1 80 8)) (C := RX5) (T := TX5) (N := 15) hx hb hts inX5 hown hK hP 80 (zt_a4 (rfl : zt_kd 80 = 4)) rfl 8 (by decide) fl72 (fun _ h9 => h9) rfl dX5_askZone_15 ?_
  obtain ⟨z4, hvv2, hf⟩ := zt_bd_some hf; obtain ⟨g5, hf⟩ := zt_gd_some hf; have hz4 := of_decide_eq_true g5
  refine va_callr (va_runV (As := [.int (σ1 80 8)]) (rest := []) ⟨hx, hb, hml, hown, hts⟩ (m_X7_at l G (σ := σ1) hvv2) (cwV 1 hts gX5_askZone_X7_at rfl rfl rfl zh_X7_at ⟨Nat.le_of_ble_eq_true rfl, Nat.le_of_ble_eq_true rfl⟩) ⟨zt_blind, va_recv hK hP (ci := 6) (q0 := 1) rfl (zt_a6 (rfl : zt_kd 1 = 6)), fun U hU hW => ⟨rfl, zt_go hE hP hS zt_id hU hW⟩⟩ rfl rfl hl.1 rfl (lv_room (Nat.le_of_ble_eq_true rfl)) dX5_askZone_18 ⟨Nat.zero_le _, Nat.zero_le _⟩) hS (fun _ _ h => h) (fun _ h => h) (fun u a t H locs ht hvm hw hB _ _ hS => ?_)
  rw [hB.1]; have hB : zt_B G u t := hB.2; rw [hw] at hB; have hP := zt_B.P hB ht
  refine lv_astore_n (lv' := [(1, .ref (zt_ad G z4)), (0, .ref (zt_ad G 80))]) hx hb dX5_askZone_21 rfl hl (by decide) rfl (fun ls hl => ?_)
  refine lv_aload_n hx hb dX5_askZone_22 rfl (lv_at hl 0 rfl) ?_
  obtain ⟨v6, hvv6, hf⟩ := zt_bd_some hf
  refine va_calli (va_runV (As := []) (rest := []) ⟨hx, hb, hml, hown, hts⟩ (m_X6_isAnswering l G hz4 (σ := σ1) hvv6) (cwV 0 hts gX5_askZone_X6_isAnswering rfl rfl rfl zh_X6_isAnswering ⟨Nat.le_of_ble_eq_true rfl, Nat.le_of_ble_eq_true rfl⟩) ⟨zt_blind, va_recv hK hP (ci := 5) (q0 := z4) rfl (zt_a5 hz4), fun U hU hW => ⟨rfl, zt_go hE hP hS zt_id hU hW⟩⟩ rfl rfl hl.1 rfl (lv_room (Nat.le_of_ble_eq_true rfl)) dX5_askZone_23 ⟨Nat.zero_le _, Nat.zero_le _⟩) hS (fun _ _ h => h) (fun _ h => h) (fun r u t H locs ht hvm hw hB _ _ hS => ?_)
  rw [hw.1]; have hB : zt_B G u t := hB; rw [hw.2] at hB; have hP := zt_B.P hB ht
  refine lv_if_eq (tgt := 56) hx hb dX5_askZone_26 (by decide) (fun c8 => ?_) (fun c8 => ?_)
  · have hf := (if_pos c8).symm.trans hf
    refine lv_aload_n hx hb dX5_askZone_56 rfl (lv_at hl 1 rfl) ?_
    obtain ⟨σ10, hvv9, hf⟩ := zt_bd_some hf
    refine va_callv (va_runV (As := []) (rest := []) ⟨hx, hb, hml, hown, hts⟩ (m_X5_takeOldPart l G (σ := σ1) hvv9) (cwV 0 hts gX5_askZone_X5_takeOldPart rfl rfl rfl zh_X5_takeOldPart ⟨Nat.le_of_ble_eq_true rfl, Nat.le_of_ble_eq_true rfl⟩) ⟨zt_blind, va_recv hK hP (ci := 4) (q0 := 80) rfl (zt_a4 (rfl : zt_kd 80 = 4)), fun U hU hW => ⟨rfl, zt_go hE hP hS zt_id hU hW⟩⟩ rfl rfl hl.1 rfl (lv_room (Nat.le_of_ble_eq_true rfl)) dX5_askZone_57 ⟨Nat.zero_le _, Nat.zero_le _⟩) hS (fun _ _ h => h) (fun _ h => h) (fun u t H locs ht hvm hw hB _ _ hS => ?_)
    have hB : zt_B G u t := hB; rw [hw] at hB; have hP := zt_B.P hB ht
    exact W.vret hx hb hr (fun t ht hW => ⟨⟨_, rfl, (Option.some.inj hf), zt_go hE hP hS zt_id ht hW⟩, hS.F ht⟩) hS.2.2 dX5_askZone_60
  · have hf := (if_neg c8).symm.trans hf
    refine lv_aload_n hx hb dX5_askZone_29 rfl (lv_at hl 0 rfl) ?_
    refine lv_aload_n hx hb dX5_askZone_30 rfl (lv_at hl 0 rfl) ?_
    obtain ⟨z13, hvv11, hf⟩ := zt_bd_some hf; obtain ⟨g14, hf⟩ := zt_gd_some hf; have hz13 := of_decide_eq_true g14
    refine va_callr (va_runV (As := []) (rest := [.ref (zt_ad G z4)]) ⟨hx, hb, hml, hown, hts⟩ (m_X6_answering l G hz4 (σ := σ1) hvv11) (cwV 0 hts gX5_askZone_X6_answering rfl rfl rfl zh_X6_answering ⟨Nat.le_of_ble_eq_true rfl, Nat.le_of_ble_eq_true rfl⟩) ⟨zt_blind, va_recv hK hP (ci := 5) (q0 := z4) rfl (zt_a5 hz4), fun U hU hW => ⟨rfl, zt_go hE hP hS zt_id hU hW⟩⟩ rfl rfl hl.1 rfl (lv_room (Nat.le_of_ble_eq_true rfl)) dX5_askZone_31 ⟨Nat.zero_le _, Nat.zero_le _⟩) hS (fun _ _ h => h) (fun _ h => h) (fun u a t H locs ht hvm hw hB _ _ hS => ?_)
    rw [hB.1]; have hB : zt_B G u t := hB.2; rw [hw] at hB; have hP := zt_B.P hB ht
    refine lv_aload_n hx hb dX5_askZone_34 rfl (lv_at hl 1 rfl) ?_
    refine va_get (D := zt_D G) (ci := 4) (v := .int (σ1 80 6)) (C := RX5) (T := TX5) (N := 15) hx hb hts inX5 hown hK hP 80 (zt_a4 (rfl : zt_kd 80 = 4)) rfl 6 (by decide) fl71 (fun _ h9 => h9) rfl dX5_askZone_35 ?_
    refine lv_aload_n hx hb dX5_askZone_38 rfl (lv_at hl 1 rfl) ?_
    refine va_get (D := zt_D G) (ci := 4) (v := .int (σ1 80 7)) (C := RX5) (T := TX5) (N := 15) hx hb hts inX5 hown hK hP 80 (zt_a4 (rfl : zt_kd 80 = 4)) rfl 7 (by decide) fl79 (fun _ h9 => h9) rfl dX5_askZone_39 ?_
    refine lv_aload_n hx hb dX5_askZone_42 rfl (lv_at hl 1 rfl) ?_
    refine va_get (D := zt_D G) (ci := 4) (v := .ref (zt_ad G 91)) (C := RX5) (T := TX5) (N := 15) hx hb hts inX5 hown hK hP 80 (zt_a4 (rfl : zt_kd 80 = 4)) rfl 2 (by decide) fl21 (fun _ h9 => h9) rfl dX5_askZone_43 ?_
    obtain ⟨σ16, hvv15, hf⟩ := zt_bd_some hf
    refine va_callv (va_runV (As := [.ref (zt_ad G z13), .int (σ1 80 6), .int (σ1 80 7), .ref (zt_ad G 91)]) (rest := []) ⟨hx, hb, hml, hown, hts⟩ (m_X6_answer l G hz4 hz13 (rfl : zt_kd 91 = 0) (σ := σ1) hvv15) (cwV 4 hts gX5_askZone_X6_answer rfl rfl rfl zh_X6_answer ⟨Nat.le_of_ble_eq_true rfl, Nat.le_of_ble_eq_true rfl⟩) ⟨zt_blind, va_recv hK hP (ci := 5) (q0 := z4) rfl (zt_a5 hz4), fun U hU hW => ⟨rfl, zt_go hE hP hS zt_id hU hW⟩⟩ rfl rfl hl.1 rfl (lv_room (Nat.le_of_ble_eq_true rfl)) dX5_askZone_46 ⟨Nat.zero_le _, Nat.zero_le _⟩) hS (fun _ _ h => h) (fun _ h => h) (fun u t H locs ht hvm hw hB _ _ hS => ?_)
    have hB : zt_B G u t := hB; rw [hw] at hB; have hP := zt_B.P hB ht
    refine lv_aload_n hx hb dX5_askZone_49 rfl (lv_at hl 1 rfl) ?_
    obtain ⟨σ18, hvv17, hf⟩ := zt_bd_some hf
    refine va_callv (va_runV (As := []) (rest := []) ⟨hx, hb, hml, hown, hts⟩ (m_X5_keepPart l G (σ := σ16) hvv17) (cwV 0 hts gX5_askZone_X5_keepPart rfl rfl rfl zh_X5_keepPart ⟨Nat.le_of_ble_eq_true rfl, Nat.le_of_ble_eq_true rfl⟩) ⟨zt_blind, va_recv hK hP (ci := 4) (q0 := 80) rfl (zt_a4 (rfl : zt_kd 80 = 4)), fun U hU hW => ⟨rfl, zt_go hE hP hS zt_id hU hW⟩⟩ rfl rfl hl.1 rfl (lv_room (Nat.le_of_ble_eq_true rfl)) dX5_askZone_50 ⟨Nat.zero_le _, Nat.zero_le _⟩) hS (fun _ _ h => h) (fun _ h => h) (fun u t H locs ht hvm hw hB _ _ hS => ?_)
    have hB : zt_B G u t := hB; rw [hw] at hB; have hP := zt_B.P hB ht
    refine lv_goto (tgt := 60) hx hb dX5_askZone_53 (by decide) ?_
    exact W.vret hx hb hr (fun t ht hW => ⟨⟨_, rfl, (Option.some.inj hf), zt_go hE hP hS zt_id ht hW⟩, hS.F ht⟩) hS.2.2 dX5_askZone_60

theorem zh_X5_takePart : yX5_takePart.cls = RX5 ∧ yX5_takePart.cls ≠ "java/lang/invoke/MethodHandle" ∧ yX5_takePart.cls ≠ "java/lang/invoke/VarHandle" ∧ (parseMethodDescriptor yX5_takePart.desc).map (fun d => d.parameters.length) = some 0 := by decide +kernel
set_option maxHeartbeats 4000000 in
set_option maxRecDepth 100000 in
theorem m_X5_takePart (l : Launch) (G : zt_G) {σ : zt_St} {σ1 : zt_St} (hf : f_X5_takePart σ = some σ1) : zt_Mv l G yX5_takePart wsX5_takePart 5 125 [.ref (zt_ad G 80)] σ σ1 := by
  refine Met.ofW (cc := cX5_takePart) (maxL := 2) (ret := none) (by decide) rfl ?_
  intro p e s m args below meth c s₁ B hml hv
  obtain ⟨rfl, hBB⟩ := hv
  have hE := zt_B.env hBB; have hK := hE.2.1; have hP := hBB.2.1
  have hx := B.exec; have hb := B.bytes; have hr := B.returns; have hts := atoms_spec (ws := wsX5_takePart) B.pre
  have hown : s.vm.findClass RX5 = some m.cls := findClass_of_methodNamed B.named
  have hlocks := B.notSynchronized
  have hS : va_S (zt_A G) s.heap s.heap [] := va_S.rf
  have hl := lv_entry ([.ref (zt_ad G 80)]) (n := 2) (Nat.le_of_ble_eq_true rfl)
  rw [lg_entry_eq]
  generalize (lg_sl ([.ref (zt_ad G 80)]) ++ List.replicate (2 - (lg_sl ([.ref (zt_ad G 80)])).length) Slot.unset).toArray = ls at hl ⊢
  have hl : lv_has ls 2 [(0, .ref (zt_ad G 80))] := hl
  show W p l e (zt_R 5 125) s m ([.ref (zt_ad G 80)] : List Value).toArray below meth c s.heap [] 0 0 (MQ below (zt_Cv G σ1) ([.ref (zt_ad G 80)] : List Value).toArray s 0 0 (zt_A G)) (F0 m 0 ls [])
  have fl12 := hts (.fieldLink RX5 12 "ZoneTree$Resolver" "kept" "LZoneTree$Kept;") (List.mem_cons_of_mem _ (List.mem_append_left _ (List.mem_append_left _ (List.mem_append_left _ (List.mem_append_left _ (List.mem_append_left _ (List.mem_append_left _ (List.mem_append_left _ (List.mem_of_getElem? (i := 2) rfl)))))))))
  have fl21 := hts (.fieldLink RX5 21 "ZoneTree$Resolver" "part" "LZoneTree$Answer;") (List.mem_cons_of_mem _ (List.mem_append_left _ (List.mem_append_left _ (List.mem_append_left _ (List.mem_append_left _ (List.mem_append_left _ (List.mem_append_left _ (List.mem_append_left _ (List.mem_of_getElem? (i := 6) rfl)))))))))
  have fl71 := hts (.fieldLink RX5 71 "ZoneTree$Resolver" "name" "I") (List.mem_cons_of_mem _ (List.mem_append_left _ (List.mem_append_left _ (List.mem_append_left _ (List.mem_append_left _ (List.mem_append_left _ (List.mem_append_left _ (List.mem_append_left _ (List.mem_of_getElem? (i := 3) rfl)))))))))
  have fl72 := hts (.fieldLink RX5 72 "ZoneTree$Resolver" "zone" "I") (List.mem_cons_of_mem _ (List.mem_append_left _ (List.mem_append_left _ (List.mem_append_left _ (List.mem_append_left _ (List.mem_append_left _ (List.mem_append_left _ (List.mem_append_left _ (List.mem_of_getElem? (i := 1) rfl)))))))))
  have fl79 := hts (.fieldLink RX5 79 "ZoneTree$Resolver" "sort" "I") (List.mem_cons_of_mem _ (List.mem_append_left _ (List.mem_append_left _ (List.mem_append_left _ (List.mem_append_left _ (List.mem_append_left _ (List.mem_append_left _ (List.mem_append_left _ (List.mem_of_getElem? (i := 4) rfl)))))))))
  have fl82 := hts (.fieldLink RX5 82 "ZoneTree$Resolver" "isAnew" "Z") (List.mem_cons_of_mem _ (List.mem_append_left _ (List.mem_append_left _ (List.mem_append_left _ (List.mem_append_left _ (List.mem_append_left _ (List.mem_append_left _ (List.mem_append_left _ (List.mem_of_getElem? (i := 0) rfl)))))))))
  have fl86 := hts (.fieldLink RX5 86 "ZoneTree$Resolver" "questions" "I") (List.mem_cons_of_mem _ (List.mem_append_left _ (List.mem_append_left _ (List.mem_append_left _ (List.mem_append_left _ (List.mem_append_left _ (List.mem_append_left _ (List.mem_append_left _ (List.mem_of_getElem? (i := 7) rfl)))))))))
  have fl104 := hts (.fieldLink RX5 104 "ZoneTree$Resolver" "now" "I") (List.mem_cons_of_mem _ (List.mem_append_left _ (List.mem_append_left _ (List.mem_append_left _ (List.mem_append_left _ (List.mem_append_left _ (List.mem_append_left _ (List.mem_append_left _ (List.mem_of_getElem? (i := 5) rfl)))))))))
  have inX5 : ∀ w ∈ wsX50, w ∈ wsX5_takePart := fun w h => (List.mem_cons_of_mem _ (List.mem_append_left _ (List.mem_append_left _ (List.mem_append_left _ (List.mem_append_left _ (List.mem_append_left _ (List.mem_append_right _ h)))))))
  have B105 : ∀ (σ : zt_St) (H : Heap) (locs : List Loc) (ls : Array Slot), f_X5_takePart_105 σ = some σ1 → va_P (zt_D G) vwCl (zt_ww G σ) H → va_S (zt_A G) s.heap H locs → lv_has ls 2 [(0, .ref (zt_ad G 80))] → W p l e (zt_R 5 125) s m ([.ref (zt_ad G 80)] : List Value).toArray below meth c H locs 0 0 (MQ below (zt_Cv G σ1) ([.ref (zt_ad G 80)] : List Value).toArray s 0 0 (zt_A G)) (F0 m 105 ls []) := by
    intro σ H locs ls hf hP hS hl
    unfold f_X5_takePart_105 at hf
    refine lv_aload_n hx hb dX5_takePart_105 rfl (lv_at hl 0 rfl) ?_
    obtain ⟨σ17, hvv16, hf⟩ := zt_bd_some hf
    refine va_callv (va_runV (As := []) (rest := []) ⟨hx, hb, hml, hown, hts⟩ (m_X5_askZone l G (σ := σ) hvv16) (cwV 0 hts gX5_takePart_X5_askZone rfl rfl rfl zh_X5_askZone ⟨Nat.le_of_ble_eq_true rfl, Nat.le_of_ble_eq_true rfl⟩) ⟨zt_blind, va_recv hK hP (ci := 4) (q0 := 80) rfl (zt_a4 (rfl : zt_kd 80 = 4)), fun U hU hW => ⟨rfl, zt_go hE hP hS zt_id hU hW⟩⟩ rfl rfl hl.1 rfl (lv_room (Nat.le_of_ble_eq_true rfl)) dX5_takePart_106 ⟨Nat.zero_le _, Nat.zero_le _⟩) hS (fun _ _ h => h) (fun _ h => h) (fun u t H locs ht hvm hw hB _ _ hS => ?_)
    have hB : zt_B G u t := hB; rw [hw] at hB; have hP := zt_B.P hB ht
    exact W.vret hx hb hr (fun t ht hW => ⟨⟨_, rfl, (Option.some.inj hf), zt_go hE hP hS zt_id ht hW⟩, hS.F ht⟩) hS.2.2 dX5_takePart_109
  have B34 : ∀ (σ : zt_St) (y0 : Int32) (H : Heap) (locs : List Loc) (ls : Array Slot), f_X5_takePart_34 σ y0 = some σ1 → va_P (zt_D G) vwCl (zt_ww G σ) H → va_S (zt_A G) s.heap H locs → lv_has ls 2 [(0, .ref (zt_ad G 80))] → W p l e (zt_R 5 125) s m ([.ref (zt_ad G 80)] : List Value).toArray below meth c H locs 0 0 (MQ below (zt_Cv G σ1) ([.ref (zt_ad G 80)] : List Value).toArray s 0 0 (zt_A G)) (F0 m 34 ls [.int y0]) := by
    intro σ y0 H locs ls hf hP hS hl
    unfold f_X5_takePart_34 at hf
    refine lv_istore_n (lv' := [(1, .int y0), (0, .ref (zt_ad G 80))]) hx hb dX5_takePart_34 rfl hl (by decide) rfl (fun ls hl => ?_)
    refine lv_aload_n hx hb dX5_takePart_35 rfl (lv_at hl 1 rfl) ?_
    refine va_get (D := zt_D G) (ci := 4) (v := .ref (zt_ad G 81)) (C := RX5) (T := TX5) (N := 15) hx hb hts inX5 hown hK hP 80 (zt_a4 (rfl : zt_kd 80 = 4)) rfl 1 (by decide) fl12 (fun _ h9 => h9) rfl dX5_takePart_36 ?_
    refine lv_iload_n hx hb dX5_takePart_39 rfl (lv_at hl 0 rfl) ?_
    refine lv_aload_n hx hb dX5_takePart_40 rfl (lv_at hl 1 rfl) ?_
    refine va_get (D := zt_D G) (ci := 4) (v := .int (σ 80 3)) (C := RX5) (T := TX5) (N := 15) hx hb hts inX5 hown hK hP 80 (zt_a4 (rfl : zt_kd 80 = 4)) rfl 3 (by decide) fl104 (fun _ h9 => h9) rfl dX5_takePart_41 ?_
    obtain ⟨v5, hvv5, hf⟩ := zt_bd_some hf
    refine va_calli (va_runV (As := [.int y0, .int (σ 80 3)]) (rest := []) ⟨hx, hb, hml, hown, hts⟩ (m_X2_isHolding l G (σ := σ) hvv5) (cwV 2 hts gX5_takePart_X2_isHolding rfl rfl rfl zh_X2_isHolding ⟨Nat.le_of_ble_eq_true rfl, Nat.le_of_ble_eq_true rfl⟩) ⟨zt_blind, va_recv hK hP (ci := 2) (q0 := 81) rfl (zt_a2 (rfl : zt_kd 81 = 2)), fun U hU hW => ⟨rfl, zt_go hE hP hS zt_id hU hW⟩⟩ rfl rfl hl.1 rfl (lv_room (Nat.le_of_ble_eq_true rfl)) dX5_takePart_44 ⟨Nat.zero_le _, Nat.zero_le _⟩) hS (fun _ _ h => h) (fun _ h => h) (fun r u t H locs ht hvm hw hB _ _ hS => ?_)
    rw [hw.1]; have hB : zt_B G u t := hB; rw [hw.2] at hB; have hP := zt_B.P hB ht
    refine lv_if_eq (tgt := 69) hx hb dX5_takePart_47 (by decide) (fun c7 => ?_) (fun c7 => ?_)
    · have hf := (if_pos c7).symm.trans hf
      refine lv_aload_n hx hb dX5_takePart_69 rfl (lv_at hl 1 rfl) ?_
      refine va_get (D := zt_D G) (ci := 4) (v := .int (σ 80 10)) (C := RX5) (T := TX5) (N := 15) hx hb hts inX5 hown hK hP 80 (zt_a4 (rfl : zt_kd 80 = 4)) rfl 10 (by decide) fl86 (fun _ h9 => h9) rfl dX5_takePart_70 ?_
      refine lv_bipush (v := 12) hx hb dX5_takePart_73 (by decide +kernel) ?_
      refine lv_icmp_lt (tgt := 93) hx hb dX5_takePart_75 (by decide) (fun c8 => ?_) (fun c8 => ?_)
      · have hf := (if_pos c8).symm.trans hf
        refine lv_aload_n hx hb dX5_takePart_93 rfl (lv_at hl 1 rfl) ?_
        refine va_get (D := zt_D G) (ci := 4) (v := .int (σ 80 8)) (C := RX5) (T := TX5) (N := 15) hx hb hts inX5 hown hK hP 80 (zt_a4 (rfl : zt_kd 80 = 4)) rfl 8 (by decide) fl72 (fun _ h9 => h9) rfl dX5_takePart_94 ?_
        refine lv_iconst (v := (-1)) hx hb dX5_takePart_97 (by decide) ?_
        refine lv_icmp_ne (tgt := 105) hx hb dX5_takePart_98 (by decide) (fun c9 => ?_) (fun c9 => ?_)
        · have hf := (if_neg c9).symm.trans hf
          exact B105 σ _ _ _ hf hP hS (lv_sub hl [1] rfl)
        · have hf := (if_pos c9).symm.trans hf
          refine lv_aload_n hx hb dX5_takePart_101 rfl (lv_at hl 1 rfl) ?_
          obtain ⟨σ11, hvv10, hf⟩ := zt_bd_some hf
          refine va_callv (va_runV (As := []) (rest := []) ⟨hx, hb, hml, hown, hts⟩ (m_X5_goToStart l G (σ := σ) hvv10) (cwV 0 hts gX5_takePart_X5_goToStart rfl rfl rfl zh_X5_goToStart ⟨Nat.le_of_ble_eq_true rfl, Nat.le_of_ble_eq_true rfl⟩) ⟨zt_blind, va_recv hK hP (ci := 4) (q0 := 80) rfl (zt_a4 (rfl : zt_kd 80 = 4)), fun U hU hW => ⟨rfl, zt_go hE hP hS zt_id hU hW⟩⟩ rfl rfl hl.1 rfl (lv_room (Nat.le_of_ble_eq_true rfl)) dX5_takePart_102 ⟨Nat.zero_le _, Nat.zero_le _⟩) hS (fun _ _ h => h) (fun _ h => h) (fun u t H locs ht hvm hw hB _ _ hS => ?_)
          have hB : zt_B G u t := hB; rw [hw] at hB; have hP := zt_B.P hB ht
          exact B105 σ11 _ _ _ hf hP hS (lv_sub hl [1] rfl)
      · have hf := (if_neg c8).symm.trans hf
        refine lv_aload_n hx hb dX5_takePart_78 rfl (lv_at hl 1 rfl) ?_
        refine va_get (D := zt_D G) (ci := 4) (v := .ref (zt_ad G 91)) (C := RX5) (T := TX5) (N := 15) hx hb hts inX5 hown hK hP 80 (zt_a4 (rfl : zt_kd 80 = 4)) rfl 2 (by decide) fl21 (fun _ h9 => h9) rfl dX5_takePart_79 ?_
        refine lv_bipush (v := 6) hx hb dX5_takePart_82 (by decide +kernel) ?_
        refine lv_iconst (v := (-1)) hx hb dX5_takePart_84 (by decide) ?_
        refine lv_iconst (v := (-1)) hx hb dX5_takePart_85 (by decide) ?_
        refine lv_iconst (v := 0) hx hb dX5_takePart_86 (by decide) ?_
        obtain ⟨σ13, hvv12, hf⟩ := zt_bd_some hf
        refine va_callv (va_runV (As := [.int 6, .int (-1), .int (-1), .int 0]) (rest := []) ⟨hx, hb, hml, hown, hts⟩ (m_X0_tell l G (rfl : zt_kd 91 = 0) (σ := σ) hvv12) (cwV 4 hts gX5_takePart_X0_tell rfl rfl rfl zh_X0_tell ⟨Nat.le_of_ble_eq_true rfl, Nat.le_of_ble_eq_true rfl⟩) ⟨zt_blind, va_recv hK hP (ci := 0) (q0 := 91) rfl (zt_a0 (rfl : zt_kd 91 = 0)), fun U hU hW => ⟨rfl, zt_go hE hP hS zt_id hU hW⟩⟩ rfl rfl hl.1 rfl (lv_room (Nat.le_of_ble_eq_true rfl)) dX5_takePart_87 ⟨Nat.zero_le _, Nat.zero_le _⟩) hS (fun _ _ h => h) (fun _ h => h) (fun u t H locs ht hvm hw hB _ _ hS => ?_)
        have hB : zt_B G u t := hB; rw [hw] at hB; have hP := zt_B.P hB ht
        refine lv_goto (tgt := 109) hx hb dX5_takePart_90 (by decide) ?_
        exact W.vret hx hb hr (fun t ht hW => ⟨⟨_, rfl, (Option.some.inj hf), zt_go hE hP hS zt_id ht hW⟩, hS.F ht⟩) hS.2.2 dX5_takePart_109
    · have hf := (if_neg c7).symm.trans hf
      refine lv_aload_n hx hb dX5_takePart_50 rfl (lv_at hl 1 rfl) ?_
      refine va_get (D := zt_D G) (ci := 4) (v := .ref (zt_ad G 81)) (C := RX5) (T := TX5) (N := 15) hx hb hts inX5 hown hK hP 80 (zt_a4 (rfl : zt_kd 80 = 4)) rfl 1 (by decide) fl12 (fun _ h9 => h9) rfl dX5_takePart_51 ?_
      refine lv_iload_n hx hb dX5_takePart_54 rfl (lv_at hl 0 rfl) ?_
      refine lv_aload_n hx hb dX5_takePart_55 rfl (lv_at hl 1 rfl) ?_
      refine va_get (D := zt_D G) (ci := 4) (v := .int (σ 80 3)) (C := RX5) (T := TX5) (N := 15) hx hb hts inX5 hown hK hP 80 (zt_a4 (rfl : zt_kd 80 = 4)) rfl 3 (by decide) fl104 (fun _ h9 => h9) rfl dX5_takePart_56 ?_
      refine lv_aload_n hx hb dX5_takePart_59 rfl (lv_at hl 1 rfl) ?_
      refine va_get (D := zt_D G) (ci := 4) (v := .ref (zt_ad G 91)) (C := RX5) (T := TX5) (N := 15) hx hb hts inX5 hown hK hP 80 (zt_a4 (rfl : zt_kd 80 = 4)) rfl 2 (by decide) fl21 (fun _ h9 => h9) rfl dX5_takePart_60 ?_
      obtain ⟨σ15, hvv14, hf⟩ := zt_bd_some hf
      refine va_callv (va_runV (As := [.int y0, .int (σ 80 3), .ref (zt_ad G 91)]) (rest := []) ⟨hx, hb, hml, hown, hts⟩ (m_X2_read l G (rfl : zt_kd 91 = 0) (σ := σ) hvv14) (cwV 3 hts gX5_takePart_X2_read rfl rfl rfl zh_X2_read ⟨Nat.le_of_ble_eq_true rfl, Nat.le_of_ble_eq_true rfl⟩) ⟨zt_blind, va_recv hK hP (ci := 2) (q0 := 81) rfl (zt_a2 (rfl : zt_kd 81 = 2)), fun U hU hW => ⟨rfl, zt_go hE hP hS zt_id hU hW⟩⟩ rfl rfl hl.1 rfl (lv_room (Nat.le_of_ble_eq_true rfl)) dX5_takePart_63 ⟨Nat.zero_le _, Nat.zero_le _⟩) hS (fun _ _ h => h) (fun _ h => h) (fun u t H locs ht hvm hw hB _ _ hS => ?_)
      have hB : zt_B G u t := hB; rw [hw] at hB; have hP := zt_B.P hB ht
      refine lv_goto (tgt := 109) hx hb dX5_takePart_66 (by decide) ?_
      exact W.vret hx hb hr (fun t ht hW => ⟨⟨_, rfl, (Option.some.inj hf), zt_go hE hP hS zt_id ht hW⟩, hS.F ht⟩) hS.2.2 dX5_takePart_109
  have B15 : ∀ (σ : zt_St) (H : Heap) (locs : List Loc) (ls : Array Slot), f_X5_takePart_15 σ = some σ1 → va_P (zt_D G) vwCl (zt_ww G σ) H → va_S (zt_A G) s.heap H locs → lv_has ls 2 [(0, .ref (zt_ad G 80))] → W p l e (zt_R 5 125) s m ([.ref (zt_ad G 80)] : List Value).toArray below meth c H locs 0 0 (MQ below (zt_Cv G σ1) ([.ref (zt_ad G 80)] : List Value).toArray s 0 0 (zt_A G)) (F0 m 15 ls []) := by
    intro σ H locs ls hf hP hS hl
    unfold f_X5_takePart_15 at hf
    refine lv_iconst (v := (-1)) hx hb dX5_takePart_15 (by decide) ?_
    refine lv_goto (tgt := 34) hx hb dX5_takePart_16 (by decide) ?_
    exact B34 σ (-1) _ _ _ hf hP hS (lv_sub hl [0] rfl)
  unfold f_X5_takePart at hf
  refine lv_aload_n hx hb dX5_takePart_0 rfl (lv_at hl 0 rfl) ?_
  refine va_get (D := zt_D G) (ci := 4) (v := .int (σ 80 5)) (C := RX5) (T := TX5) (N := 15) hx hb hts inX5 hown hK hP 80 (zt_a4 (rfl : zt_kd 80 = 4)) rfl 5 (by decide) fl82 (fun _ h9 => h9) rfl dX5_takePart_1 ?_
  refine lv_if_ne (tgt := 15) hx hb dX5_takePart_4 (by decide) (fun c1 => ?_) (fun c1 => ?_)
  · have hf := (if_neg c1).symm.trans hf
    exact B15 σ _ _ _ hf hP hS (lv_sub hl [0] rfl)
  · have hf := (if_pos c1).symm.trans hf
    refine lv_aload_n hx hb dX5_takePart_7 rfl (lv_at hl 0 rfl) ?_
    refine va_get (D := zt_D G) (ci := 4) (v := .int (σ 80 8)) (C := RX5) (T := TX5) (N := 15) hx hb hts inX5 hown hK hP 80 (zt_a4 (rfl : zt_kd 80 = 4)) rfl 8 (by decide) fl72 (fun _ h9 => h9) rfl dX5_takePart_8 ?_
    refine lv_iconst (v := (-1)) hx hb dX5_takePart_11 (by decide) ?_
    refine lv_icmp_eq (tgt := 19) hx hb dX5_takePart_12 (by decide) (fun c2 => ?_) (fun c2 => ?_)
    · have hf := (if_pos c2).symm.trans hf
      refine lv_aload_n hx hb dX5_takePart_19 rfl (lv_at hl 0 rfl) ?_
      refine va_get (D := zt_D G) (ci := 4) (v := .ref (zt_ad G 81)) (C := RX5) (T := TX5) (N := 15) hx hb hts inX5 hown hK hP 80 (zt_a4 (rfl : zt_kd 80 = 4)) rfl 1 (by decide) fl12 (fun _ h9 => h9) rfl dX5_takePart_20 ?_
      refine lv_aload_n hx hb dX5_takePart_23 rfl (lv_at hl 0 rfl) ?_
      refine va_get (D := zt_D G) (ci := 4) (v := .int (σ 80 6)) (C := RX5) (T := TX5) (N := 15) hx hb hts inX5 hown hK hP 80 (zt_a4 (rfl : zt_kd 80 = 4)) rfl 6 (by decide) fl71 (fun _ h9 => h9) rfl dX5_takePart_24 ?_
      refine lv_aload_n hx hb dX5_takePart_27 rfl (lv_at hl 0 rfl) ?_
      refine va_get (D := zt_D G) (ci := 4) (v := .int (σ 80 7)) (C := RX5) (T := TX5) (N := 15) hx hb hts inX5 hown hK hP 80 (zt_a4 (rfl : zt_kd 80 = 4)) rfl 7 (by decide) fl79 (fun _ h9 => h9) rfl dX5_takePart_28 ?_
      obtain ⟨v3, hvv3, hf⟩ := zt_bd_some hf
      refine va_calli (va_runV (As := [.int (σ 80 6), .int (σ 80 7)]) (rest := []) ⟨hx, hb, hml, hown, hts⟩ (m_X2_rowOf l G (σ := σ) hvv3) (cwV 2 hts gX5_takePart_X2_rowOf rfl rfl rfl zh_X2_rowOf ⟨Nat.le_of_ble_eq_true rfl, Nat.le_of_ble_eq_true rfl⟩) ⟨zt_blind, va_recv hK hP (ci := 2) (q0 := 81) rfl (zt_a2 (rfl : zt_kd 81 = 2)), fun U hU hW => ⟨rfl, zt_go hE hP hS zt_id hU hW⟩⟩ rfl rfl hl.1 rfl (lv_room (Nat.le_of_ble_eq_true rfl)) dX5_takePart_31 ⟨Nat.zero_le _, Nat.zero_le _⟩) hS (fun _ _ h => h) (fun _ h => h) (fun r u t H locs ht hvm hw hB _ _ hS => ?_)
      rw [hw.1]; have hB : zt_B G u t := hB; rw [hw.2] at hB; have hP := zt_B.P hB ht
      exact B34 σ v3 _ _ _ hf hP hS (lv_sub hl [0] rfl)
    · have hf := (if_neg c2).symm.trans hf
      exact B15 σ _ _ _ hf hP hS (lv_sub hl [0] rfl)

theorem zh_X5_goDown : yX5_goDown.cls = RX5 ∧ yX5_goDown.cls ≠ "java/lang/invoke/MethodHandle" ∧ yX5_goDown.cls ≠ "java/lang/invoke/VarHandle" ∧ (parseMethodDescriptor yX5_goDown.desc).map (fun d => d.parameters.length) = some 0 := by decide +kernel
set_option maxHeartbeats 4000000 in
set_option maxRecDepth 100000 in
theorem m_X5_goDown (l : Launch) (G : zt_G) {σ : zt_St} {σ1 : zt_St} (hf : f_X5_goDown σ = some σ1) : zt_Mv l G yX5_goDown wsX5_goDown 3 64 [.ref (zt_ad G 80)] σ σ1 := by
  refine Met.ofW (cc := cX5_goDown) (maxL := 1) (ret := none) (by decide) rfl ?_
  intro p e s m args below meth c s₁ B hml hv
  obtain ⟨rfl, hBB⟩ := hv
  have hE := zt_B.env hBB; have hK := hE.2.1; have hP := hBB.2.1
  have hx := B.exec; have hb := B.bytes; have hr := B.returns; have hts := atoms_spec (ws := wsX5_goDown) B.pre
  have hown : s.vm.findClass RX5 = some m.cls := findClass_of_methodNamed B.named
  have hlocks := B.notSynchronized
  have hS : va_S (zt_A G) s.heap s.heap [] := va_S.rf
  have hl := lv_entry ([.ref (zt_ad G 80)]) (n := 1) (Nat.le_of_ble_eq_true rfl)
  rw [lg_entry_eq]
  generalize (lg_sl ([.ref (zt_ad G 80)]) ++ List.replicate (1 - (lg_sl ([.ref (zt_ad G 80)])).length) Slot.unset).toArray = ls at hl ⊢
  have hl : lv_has ls 1 [(0, .ref (zt_ad G 80))] := hl
  show W p l e (zt_R 3 64) s m ([.ref (zt_ad G 80)] : List Value).toArray below meth c s.heap [] 0 0 (MQ below (zt_Cv G σ1) ([.ref (zt_ad G 80)] : List Value).toArray s 0 0 (zt_A G)) (F0 m 0 ls [])
  have fl21 := hts (.fieldLink RX5 21 "ZoneTree$Resolver" "part" "LZoneTree$Answer;") (List.mem_cons_of_mem _ (List.mem_append_left _ (List.mem_append_left _ (List.mem_append_left _ (List.mem_append_left _ (List.mem_append_left _ (List.mem_of_getElem? (i := 0) rfl)))))))
  have fl29 := hts (.fieldLink RX5 29 "ZoneTree$Resolver" "zones" "LZoneTree$Zones;") (List.mem_cons_of_mem _ (List.mem_append_left _ (List.mem_append_left _ (List.mem_append_left _ (List.mem_append_left _ (List.mem_append_left _ (List.mem_of_getElem? (i := 3) rfl)))))))
  have fl59 := hts (.fieldLink RX5 59 "ZoneTree$Resolver" "zoneTrust" "I") (List.mem_cons_of_mem _ (List.mem_append_left _ (List.mem_append_left _ (List.mem_append_left _ (List.mem_append_left _ (List.mem_append_left _ (List.mem_of_getElem? (i := 2) rfl)))))))
  have fl72 := hts (.fieldLink RX5 72 "ZoneTree$Resolver" "zone" "I") (List.mem_cons_of_mem _ (List.mem_append_left _ (List.mem_append_left _ (List.mem_append_left _ (List.mem_append_left _ (List.mem_append_left _ (List.mem_of_getElem? (i := 1) rfl)))))))
  have fl104 := hts (.fieldLink RX5 104 "ZoneTree$Resolver" "now" "I") (List.mem_cons_of_mem _ (List.mem_append_left _ (List.mem_append_left _ (List.mem_append_left _ (List.mem_append_left _ (List.mem_append_left _ (List.mem_of_getElem? (i := 4) rfl)))))))
  have fl172 := zt_Nw.use (args := ([.ref (zt_ad G 80)] : List Value).toArray) hE.2.2.1 (q := ("ZoneTree$Resolver", 172, "ZoneTree$Answer", "cutZone", "I", "ZoneTree")) (List.mem_of_getElem? (i := 26) rfl)
  have fl186 := zt_Nw.use (args := ([.ref (zt_ad G 80)] : List Value).toArray) hE.2.2.1 (q := ("ZoneTree$Resolver", 186, "ZoneTree$Answer", "cutTrust", "I", "ZoneTree")) (List.mem_of_getElem? (i := 28) rfl)
  have inX0 : ∀ w ∈ wsX00, w ∈ wsX5_goDown := fun w h => (List.mem_cons_of_mem _ (List.mem_append_left _ (List.mem_append_left _ (List.mem_append_right _ h))))
  have inX5 : ∀ w ∈ wsX50, w ∈ wsX5_goDown := fun w h => (List.mem_cons_of_mem _ (List.mem_append_left _ (List.mem_append_left _ (List.mem_append_left _ (List.mem_append_right _ h)))))
  have B37 : ∀ (σ : zt_St) (H : Heap) (locs : List Loc) (ls : Array Slot), f_X5_goDown_37 σ = some σ1 → va_P (zt_D G) vwCl (zt_ww G σ) H → va_S (zt_A G) s.heap H locs → lv_has ls 1 [(0, .ref (zt_ad G 80))] → W p l e (zt_R 3 64) s m ([.ref (zt_ad G 80)] : List Value).toArray below meth c H locs 0 0 (MQ below (zt_Cv G σ1) ([.ref (zt_ad G 80)] : List Value).toArray s 0 0 (zt_A G)) (F0 m 37 ls []) := by
    intro σ H locs ls hf hP hS hl
    unfold f_X5_goDown_37 at hf
    refine lv_aload_n hx hb dX5_goDown_37 rfl (lv_at hl 0 rfl) ?_
    refine va_get (D := zt_D G) (ci := 4) (v := .int (σ 80 13)) (C := RX5) (T := TX5) (N := 15) hx hb hts inX5 hown hK hP 80 (zt_a4 (rfl : zt_kd 80 = 4)) rfl 13 (by decide) fl59 (fun _ h9 => h9) rfl dX5_goDown_38 ?_
    refine lv_if_ne (tgt := 77) hx hb dX5_goDown_41 (by decide) (fun c5 => ?_) (fun c5 => ?_)
    · have hf := (if_neg c5).symm.trans hf
      exact W.vret hx hb hr (fun t ht hW => ⟨⟨_, rfl, (Option.some.inj hf), zt_go hE hP hS zt_id ht hW⟩, hS.F ht⟩) hS.2.2 dX5_goDown_77
    · have hf := (if_pos c5).symm.trans hf
      refine lv_aload_n hx hb dX5_goDown_44 rfl (lv_at hl 0 rfl) ?_
      refine va_get (D := zt_D G) (ci := 4) (v := .ref (zt_ad G 1)) (C := RX5) (T := TX5) (N := 15) hx hb hts inX5 hown hK hP 80 (zt_a4 (rfl : zt_kd 80 = 4)) rfl 0 (by decide) fl29 (fun _ h9 => h9) rfl dX5_goDown_45 ?_
      refine lv_aload_n hx hb dX5_goDown_48 rfl (lv_at hl 0 rfl) ?_
      refine va_get (D := zt_D G) (ci := 4) (v := .int (σ 80 8)) (C := RX5) (T := TX5) (N := 15) hx hb hts inX5 hown hK hP 80 (zt_a4 (rfl : zt_kd 80 = 4)) rfl 8 (by decide) fl72 (fun _ h9 => h9) rfl dX5_goDown_49 ?_
      obtain ⟨z8, hvv6, hf⟩ := zt_bd_some hf; obtain ⟨g9, hf⟩ := zt_gd_some hf; have hz8 := of_decide_eq_true g9
      refine va_callr (va_runV (As := [.int (σ 80 8)]) (rest := []) ⟨hx, hb, hml, hown, hts⟩ (m_X7_at l G (σ := σ) hvv6) (cwV 1 hts gX5_goDown_X7_at rfl rfl rfl zh_X7_at ⟨Nat.le_of_ble_eq_true rfl, Nat.le_of_ble_eq_true rfl⟩) ⟨zt_blind, va_recv hK hP (ci := 6) (q0 := 1) rfl (zt_a6 (rfl : zt_kd 1 = 6)), fun U hU hW => ⟨rfl, zt_go hE hP hS zt_id hU hW⟩⟩ rfl rfl hl.1 rfl (lv_room (Nat.le_of_ble_eq_true rfl)) dX5_goDown_52 ⟨Nat.zero_le _, Nat.zero_le _⟩) hS (fun _ _ h => h) (fun _ h => h) (fun u a t H locs ht hvm hw hB _ _ hS => ?_)
      rw [hB.1]; have hB : zt_B G u t := hB.2; rw [hw] at hB; have hP := zt_B.P hB ht
      refine lv_aload_n hx hb dX5_goDown_55 rfl (lv_at hl 0 rfl) ?_
      refine va_get (D := zt_D G) (ci := 4) (v := .ref (zt_ad G 91)) (C := RX5) (T := TX5) (N := 15) hx hb hts inX5 hown hK hP 80 (zt_a4 (rfl : zt_kd 80 = 4)) rfl 2 (by decide) fl21 (fun _ h9 => h9) rfl dX5_goDown_56 ?_
      refine va_getN (D := zt_D G) (ci := 0) (v := .int (σ 91 7)) (C := RX0) (T := TX0) (N := 8) hx hb hts inX0 hown hK hP 91 (zt_a0 (rfl : zt_kd 91 = 0)) rfl 7 (by decide) fl186 (fun _ h9 => h9) rfl dX5_goDown_59 ?_
      refine lv_aload_n hx hb dX5_goDown_62 rfl (lv_at hl 0 rfl) ?_
      refine va_get (D := zt_D G) (ci := 4) (v := .int (σ 80 3)) (C := RX5) (T := TX5) (N := 15) hx hb hts inX5 hown hK hP 80 (zt_a4 (rfl : zt_kd 80 = 4)) rfl 3 (by decide) fl104 (fun _ h9 => h9) rfl dX5_goDown_63 ?_
      obtain ⟨v10, hvv10, hf⟩ := zt_bd_some hf
      refine va_calli (va_runV (As := [.int (σ 91 7), .int (σ 80 3)]) (rest := []) ⟨hx, hb, hml, hown, hts⟩ (m_X6_isGoodFor l G hz8 (σ := σ) hvv10) (cwV 2 hts gX5_goDown_X6_isGoodFor rfl rfl rfl zh_X6_isGoodFor ⟨Nat.le_of_ble_eq_true rfl, Nat.le_of_ble_eq_true rfl⟩) ⟨zt_blind, va_recv hK hP (ci := 5) (q0 := z8) rfl (zt_a5 hz8), fun U hU hW => ⟨rfl, zt_go hE hP hS zt_id hU hW⟩⟩ rfl rfl hl.1 rfl (lv_room (Nat.le_of_ble_eq_true rfl)) dX5_goDown_66 ⟨Nat.zero_le _, Nat.zero_le _⟩) hS (fun _ _ h => h) (fun _ h => h) (fun r u t H locs ht hvm hw hB _ _ hS => ?_)
      rw [hw.1]; have hB : zt_B G u t := hB; rw [hw.2] at hB; have hP := zt_B.P hB ht
      refine lv_if_ne (tgt := 77) hx hb dX5_goDown_69 (by decide) (fun c12 => ?_) (fun c12 => ?_)
      · have hf := (if_neg c12).symm.trans hf
        exact W.vret hx hb hr (fun t ht hW => ⟨⟨_, rfl, (Option.some.inj hf), zt_go hE hP hS zt_id ht hW⟩, hS.F ht⟩) hS.2.2 dX5_goDown_77
      · have hf := (if_pos c12).symm.trans hf
        refine lv_aload_n hx hb dX5_goDown_72 rfl (lv_at hl 0 rfl) ?_
        refine lv_iconst (v := 2) hx hb dX5_goDown_73 (by decide) ?_
        obtain ⟨σ13, hσ13, hf⟩ := zt_lt_some hf
        refine va_put (D := zt_D G) (ci := 4) (v := .int 2) (ty := .int) (C := RX5) (T := TX5) (N := 15) hx hb hts inX5 tyX5 tyX5_ok nmX5 hown hK hP (zt_apart hE.1) hS 80 (zt_a4 (rfl : zt_kd 80 = 4)) rfl 13 (by decide) fl59 (fun _ h9 => h9) rfl (tyX5_ok 13 (by decide)) rfl rfl (Nat.le_of_ble_eq_true rfl) dX5_goDown_74 (fun H locs hP _ hS => ?_)
        rw [zt_p4_13 (rfl : zt_kd 80 = 4), ← hσ13] at hP
        exact W.vret hx hb hr (fun t ht hW => ⟨⟨_, rfl, (Option.some.inj hf), zt_go hE hP hS zt_id ht hW⟩, hS.F ht⟩) hS.2.2 dX5_goDown_77
  unfold f_X5_goDown at hf
  refine lv_aload_n hx hb dX5_goDown_0 rfl (lv_at hl 0 rfl) ?_
  refine lv_aload_n hx hb dX5_goDown_1 rfl (lv_at hl 0 rfl) ?_
  refine va_get (D := zt_D G) (ci := 4) (v := .ref (zt_ad G 91)) (C := RX5) (T := TX5) (N := 15) hx hb hts inX5 hown hK hP 80 (zt_a4 (rfl : zt_kd 80 = 4)) rfl 2 (by decide) fl21 (fun _ h9 => h9) rfl dX5_goDown_2 ?_
  refine va_getN (D := zt_D G) (ci := 0) (v := .int (σ 91 6)) (C := RX0) (T := TX0) (N := 8) hx hb hts inX0 hown hK hP 91 (zt_a0 (rfl : zt_kd 91 = 0)) rfl 6 (by decide) fl172 (fun _ h9 => h9) rfl dX5_goDown_5 ?_
  obtain ⟨σ1, hσ1, hf⟩ := zt_lt_some hf
  refine va_put (D := zt_D G) (ci := 4) (v := .int (σ 91 6)) (ty := .int) (C := RX5) (T := TX5) (N := 15) hx hb hts inX5 tyX5 tyX5_ok nmX5 hown hK hP (zt_apart hE.1) hS 80 (zt_a4 (rfl : zt_kd 80 = 4)) rfl 8 (by decide) fl72 (fun _ h9 => h9) rfl (tyX5_ok 8 (by decide)) rfl rfl (Nat.le_of_ble_eq_true rfl) dX5_goDown_8 (fun H locs hP _ hS => ?_)
  rw [zt_p4_8 (rfl : zt_kd 80 = 4), ← hσ1] at hP
  refine lv_aload_n hx hb dX5_goDown_11 rfl (lv_at hl 0 rfl) ?_
  refine va_get (D := zt_D G) (ci := 4) (v := .int (σ1 80 13)) (C := RX5) (T := TX5) (N := 15) hx hb hts inX5 hown hK hP 80 (zt_a4 (rfl : zt_kd 80 = 4)) rfl 13 (by decide) fl59 (fun _ h9 => h9) rfl dX5_goDown_12 ?_
  refine lv_if_ne (tgt := 37) hx hb dX5_goDown_15 (by decide) (fun c2 => ?_) (fun c2 => ?_)
  · have hf := (if_neg c2).symm.trans hf
    exact B37 σ1 _ _ _ hf hP hS (lv_sub hl [0] rfl)
  · have hf := (if_pos c2).symm.trans hf
    refine lv_aload_n hx hb dX5_goDown_18 rfl (lv_at hl 0 rfl) ?_
    refine va_get (D := zt_D G) (ci := 4) (v := .ref (zt_ad G 91)) (C := RX5) (T := TX5) (N := 15) hx hb hts inX5 hown hK hP 80 (zt_a4 (rfl : zt_kd 80 = 4)) rfl 2 (by decide) fl21 (fun _ h9 => h9) rfl dX5_goDown_19 ?_
    refine va_getN (D := zt_D G) (ci := 0) (v := .int (σ1 91 7)) (C := RX0) (T := TX0) (N := 8) hx hb hts inX0 hown hK hP 91 (zt_a0 (rfl : zt_kd 91 = 0)) rfl 7 (by decide) fl186 (fun _ h9 => h9) rfl dX5_goDown_22 ?_
    refine lv_iconst (v := (-1)) hx hb dX5_goDown_25 (by decide) ?_
    refine lv_icmp_ne (tgt := 37) hx hb dX5_goDown_26 (by decide) (fun c3 => ?_) (fun c3 => ?_)
    · have hf := (if_neg c3).symm.trans hf
      exact B37 σ1 _ _ _ hf hP hS (lv_sub hl [0] rfl)
    · have hf := (if_pos c3).symm.trans hf
      refine lv_aload_n hx hb dX5_goDown_29 rfl (lv_at hl 0 rfl) ?_
      refine lv_iconst (v := 1) hx hb dX5_goDown_30 (by decide) ?_
      obtain ⟨σ4, hσ4, hf⟩ := zt_lt_some hf
      refine va_put (D := zt_D G) (ci := 4) (v := .int 1) (ty := .int) (C := RX5) (T := TX5) (N := 15) hx hb hts inX5 tyX5 tyX5_ok nmX5 hown hK hP (zt_apart hE.1) hS 80 (zt_a4 (rfl : zt_kd 80 = 4)) rfl 13 (by decide) fl59 (fun _ h9 => h9) rfl (tyX5_ok 13 (by decide)) rfl rfl (Nat.le_of_ble_eq_true rfl) dX5_goDown_31 (fun H locs hP _ hS => ?_)
      rw [zt_p4_13 (rfl : zt_kd 80 = 4), ← hσ4] at hP
      refine lv_goto (tgt := 77) hx hb dX5_goDown_34 (by decide) ?_
      exact W.vret hx hb hr (fun t ht hW => ⟨⟨_, rfl, (Option.some.inj hf), zt_go hE hP hS zt_id ht hW⟩, hS.F ht⟩) hS.2.2 dX5_goDown_77

theorem zh_X5_finish : yX5_finish.cls = RX5 ∧ yX5_finish.cls ≠ "java/lang/invoke/MethodHandle" ∧ yX5_finish.cls ≠ "java/lang/invoke/VarHandle" ∧ (parseMethodDescriptor yX5_finish.desc).map (fun d => d.parameters.length) = some 1 := by decide +kernel
set_option maxHeartbeats 4000000 in
set_option maxRecDepth 100000 in
theorem m_X5_finish (l : Launch) (G : zt_G) {σ : zt_St} {k1 : Nat} (hk1 : zt_kd k1 = 0) {σ1 : zt_St} (hf : f_X5_finish σ k1 = some σ1) : zt_Mv l G yX5_finish wsX5_finish 1 24 [.ref (zt_ad G 80), .ref (zt_ad G k1)] σ σ1 := by
  refine Met.ofW (cc := cX5_finish) (maxL := 2) (ret := none) (by decide) rfl ?_
  intro p e s m args below meth c s₁ B hml hv
  obtain ⟨rfl, hBB⟩ := hv
  have hE := zt_B.env hBB; have hK := hE.2.1; have hP := hBB.2.1
  have hx := B.exec; have hb := B.bytes; have hr := B.returns; have hts := atoms_spec (ws := wsX5_finish) B.pre
  have hown : s.vm.findClass RX5 = some m.cls := findClass_of_methodNamed B.named
  have hlocks := B.notSynchronized
  have hS : va_S (zt_A G) s.heap s.heap [] := va_S.rf
  have hl := lv_entry ([.ref (zt_ad G 80), .ref (zt_ad G k1)]) (n := 2) (Nat.le_of_ble_eq_true rfl)
  rw [lg_entry_eq]
  generalize (lg_sl ([.ref (zt_ad G 80), .ref (zt_ad G k1)]) ++ List.replicate (2 - (lg_sl ([.ref (zt_ad G 80), .ref (zt_ad G k1)])).length) Slot.unset).toArray = ls at hl ⊢
  have hl : lv_has ls 2 [(0, .ref (zt_ad G 80)), (1, .ref (zt_ad G k1))] := hl
  show W p l e (zt_R 1 24) s m ([.ref (zt_ad G 80), .ref (zt_ad G k1)] : List Value).toArray below meth c s.heap [] 0 0 (MQ below (zt_Cv G σ1) ([.ref (zt_ad G 80), .ref (zt_ad G k1)] : List Value).toArray s 0 0 (zt_A G)) (F0 m 0 ls [])
  have fl21 := hts (.fieldLink RX5 21 "ZoneTree$Resolver" "part" "LZoneTree$Answer;") (List.mem_cons_of_mem _ (List.mem_append_left _ (List.mem_append_left _ (List.mem_of_getElem? (i := 0) rfl))))
  have fl40 := zt_Nw.use (args := ([.ref (zt_ad G 80), .ref (zt_ad G k1)] : List Value).toArray) hE.2.2.1 (q := ("ZoneTree$Resolver", 40, "ZoneTree$Answer", "kind", "I", "ZoneTree")) (List.mem_of_getElem? (i := 13) rfl)
  have fl46 := hts (.fieldLink RX5 46 "ZoneTree$Resolver" "life" "I") (List.mem_cons_of_mem _ (List.mem_append_left _ (List.mem_append_left _ (List.mem_of_getElem? (i := 2) rfl))))
  have fl68 := zt_Nw.use (args := ([.ref (zt_ad G 80), .ref (zt_ad G k1)] : List Value).toArray) hE.2.2.1 (q := ("ZoneTree$Resolver", 68, "ZoneTree$Answer", "name", "I", "ZoneTree")) (List.mem_of_getElem? (i := 18) rfl)
  have fl86 := hts (.fieldLink RX5 86 "ZoneTree$Resolver" "questions" "I") (List.mem_cons_of_mem _ (List.mem_append_left _ (List.mem_append_left _ (List.mem_of_getElem? (i := 3) rfl))))
  have fl89 := hts (.fieldLink RX5 89 "ZoneTree$Resolver" "isOld" "Z") (List.mem_cons_of_mem _ (List.mem_append_left _ (List.mem_append_left _ (List.mem_of_getElem? (i := 1) rfl))))
  have fl92 := zt_Nw.use (args := ([.ref (zt_ad G 80), .ref (zt_ad G k1)] : List Value).toArray) hE.2.2.1 (q := ("ZoneTree$Resolver", 92, "ZoneTree$Answer", "number", "I", "ZoneTree")) (List.mem_of_getElem? (i := 16) rfl)
  have fl99 := zt_Nw.use (args := ([.ref (zt_ad G 80), .ref (zt_ad G k1)] : List Value).toArray) hE.2.2.1 (q := ("ZoneTree$Resolver", 99, "ZoneTree$Answer", "questions", "I", "ZoneTree")) (List.mem_of_getElem? (i := 22) rfl)
  have fl100 := zt_Nw.use (args := ([.ref (zt_ad G 80), .ref (zt_ad G k1)] : List Value).toArray) hE.2.2.1 (q := ("ZoneTree$Resolver", 100, "ZoneTree$Answer", "isOld", "Z", "ZoneTree")) (List.mem_of_getElem? (i := 24) rfl)
  have inX0 : ∀ w ∈ wsX00, w ∈ wsX5_finish := fun w h => (List.mem_cons_of_mem _ (List.mem_append_right _ h))
  have inX5 : ∀ w ∈ wsX50, w ∈ wsX5_finish := fun w h => (List.mem_cons_of_mem _ (List.mem_append_left _ (List.mem_append_right _ h)))
  have B84 : ∀ (σ : zt_St) (H : Heap) (locs : List Loc) (ls : Array Slot), f_X5_finish_84 k1 σ = some σ1 → va_P (zt_D G) vwCl (zt_ww G σ) H → va_S (zt_A G) s.heap H locs → lv_has ls 2 [(0, .ref (zt_ad G 80)), (1, .ref (zt_ad G k1))] → W p l e (zt_R 1 24) s m ([.ref (zt_ad G 80), .ref (zt_ad G k1)] : List Value).toArray below meth c H locs 0 0 (MQ below (zt_Cv G σ1) ([.ref (zt_ad G 80), .ref (zt_ad G k1)] : List Value).toArray s 0 0 (zt_A G)) (F0 m 84 ls []) := by
    intro σ H locs ls hf hP hS hl
    unfold f_X5_finish_84 at hf
    refine lv_aload_n hx hb dX5_finish_84 rfl (lv_at hl 1 rfl) ?_
    refine lv_aload_n hx hb dX5_finish_85 rfl (lv_at hl 0 rfl) ?_
    refine va_get (D := zt_D G) (ci := 4) (v := .int (σ 80 10)) (C := RX5) (T := TX5) (N := 15) hx hb hts inX5 hown hK hP 80 (zt_a4 (rfl : zt_kd 80 = 4)) rfl 10 (by decide) fl86 (fun _ h9 => h9) rfl dX5_finish_86 ?_
    obtain ⟨σ7, hσ7, hf⟩ := zt_lt_some hf
    refine va_putN (D := zt_D G) (ci := 0) (v := .int (σ 80 10)) (ty := .int) (C := RX0) (T := TX0) (N := 8) hx hb hts inX0 tyX0 tyX0_ok nmX0 hown hK hP (zt_apart hE.1) hS k1 (zt_a0 hk1) rfl 4 (by decide) fl99 (fun _ h9 => h9) rfl (tyX0_ok 4 (by decide)) rfl rfl (Nat.le_of_ble_eq_true rfl) dX5_finish_89 (fun H locs hP _ hS => ?_)
    rw [zt_p0_4 hk1, ← hσ7] at hP
    refine lv_aload_n hx hb dX5_finish_92 rfl (lv_at hl 1 rfl) ?_
    refine lv_aload_n hx hb dX5_finish_93 rfl (lv_at hl 0 rfl) ?_
    refine va_get (D := zt_D G) (ci := 4) (v := .int (σ7 80 12)) (C := RX5) (T := TX5) (N := 15) hx hb hts inX5 hown hK hP 80 (zt_a4 (rfl : zt_kd 80 = 4)) rfl 12 (by decide) fl89 (fun _ h9 => h9) rfl dX5_finish_94 ?_
    obtain ⟨g8, hf⟩ := zt_gd_some hf
    obtain ⟨σ9, hσ9, hf⟩ := zt_lt_some hf
    refine va_putN (D := zt_D G) (ci := 0) (v := .int (σ7 80 12)) (ty := .boolean) (C := RX0) (T := TX0) (N := 8) hx hb hts inX0 tyX0 tyX0_ok nmX0 hown hK hP (zt_apart hE.1) hS k1 (zt_a0 hk1) rfl 5 (by decide) fl100 (fun _ h9 => h9) rfl (tyX0_ok 5 (by decide)) (zt_bn g8).1 (zt_bn g8).2 (Nat.le_of_ble_eq_true rfl) dX5_finish_97 (fun H locs hP _ hS => ?_)
    rw [zt_p0_5 hk1, ← hσ9] at hP
    exact W.vret hx hb hr (fun t ht hW => ⟨⟨_, rfl, (Option.some.inj hf), zt_go hE hP hS zt_id ht hW⟩, hS.F ht⟩) hS.2.2 dX5_finish_100
  have B69 : ∀ (σ : zt_St) (y0 : Int32) (y1 : Int32) (y2 : Int32) (y3 : Int32) (H : Heap) (locs : List Loc) (ls : Array Slot), f_X5_finish_69 k1 σ y0 y1 y2 y3 = some σ1 → va_P (zt_D G) vwCl (zt_ww G σ) H → va_S (zt_A G) s.heap H locs → lv_has ls 2 [(0, .ref (zt_ad G 80)), (1, .ref (zt_ad G k1))] → W p l e (zt_R 1 24) s m ([.ref (zt_ad G 80), .ref (zt_ad G k1)] : List Value).toArray below meth c H locs 0 0 (MQ below (zt_Cv G σ1) ([.ref (zt_ad G 80), .ref (zt_ad G k1)] : List Value).toArray s 0 0 (zt_A G)) (F0 m 69 ls [.int y0, .int y1, .int y2, .int y3, .ref (zt_ad G k1)]) := by
    intro σ y0 y1 y2 y3 H locs ls hf hP hS hl
    unfold f_X5_finish_69 at hf
    obtain ⟨σ11, hvv10, hf⟩ := zt_bd_some hf
    refine va_callv (va_runV (As := [.int y3, .int y2, .int y1, .int y0]) (rest := []) ⟨hx, hb, hml, hown, hts⟩ (m_X0_tell l G hk1 (σ := σ) hvv10) (cwV 4 hts gX5_finish_X0_tell rfl rfl rfl zh_X0_tell ⟨Nat.le_of_ble_eq_true rfl, Nat.le_of_ble_eq_true rfl⟩) ⟨zt_blind, va_recv hK hP (ci := 0) (q0 := k1) rfl (zt_a0 hk1), fun U hU hW => ⟨rfl, zt_go hE hP hS zt_id hU hW⟩⟩ rfl rfl hl.1 rfl (lv_room (Nat.le_of_ble_eq_true rfl)) dX5_finish_69 ⟨Nat.zero_le _, Nat.zero_le _⟩) hS (fun _ _ h => h) (fun _ h => h) (fun u t H locs ht hvm hw hB _ _ hS => ?_)
    have hB : zt_B G u t := hB; rw [hw] at hB; have hP := zt_B.P hB ht
    refine lv_goto (tgt := 84) hx hb dX5_finish_72 (by decide) ?_
    exact B84 σ11 _ _ _ hf hP hS (lv_sub hl [0, 1] rfl)
  have B32 : ∀ (σ : zt_St) (H : Heap) (locs : List Loc) (ls : Array Slot), f_X5_finish_32 k1 σ = some σ1 → va_P (zt_D G) vwCl (zt_ww G σ) H → va_S (zt_A G) s.heap H locs → lv_has ls 2 [(0, .ref (zt_ad G 80)), (1, .ref (zt_ad G k1))] → W p l e (zt_R 1 24) s m ([.ref (zt_ad G 80), .ref (zt_ad G k1)] : List Value).toArray below meth c H locs 0 0 (MQ below (zt_Cv G σ1) ([.ref (zt_ad G 80), .ref (zt_ad G k1)] : List Value).toArray s 0 0 (zt_A G)) (F0 m 32 ls []) := by
    intro σ H locs ls hf hP hS hl
    unfold f_X5_finish_32 at hf
    refine lv_aload_n hx hb dX5_finish_32 rfl (lv_at hl 1 rfl) ?_
    refine lv_aload_n hx hb dX5_finish_33 rfl (lv_at hl 0 rfl) ?_
    refine va_get (D := zt_D G) (ci := 4) (v := .ref (zt_ad G 91)) (C := RX5) (T := TX5) (N := 15) hx hb hts inX5 hown hK hP 80 (zt_a4 (rfl : zt_kd 80 = 4)) rfl 2 (by decide) fl21 (fun _ h9 => h9) rfl dX5_finish_34 ?_
    refine va_getN (D := zt_D G) (ci := 0) (v := .int (σ 91 0)) (C := RX0) (T := TX0) (N := 8) hx hb hts inX0 hown hK hP 91 (zt_a0 (rfl : zt_kd 91 = 0)) rfl 0 (by decide) fl40 (fun _ h9 => h9) rfl dX5_finish_37 ?_
    refine lv_aload_n hx hb dX5_finish_40 rfl (lv_at hl 0 rfl) ?_
    refine va_get (D := zt_D G) (ci := 4) (v := .ref (zt_ad G 91)) (C := RX5) (T := TX5) (N := 15) hx hb hts inX5 hown hK hP 80 (zt_a4 (rfl : zt_kd 80 = 4)) rfl 2 (by decide) fl21 (fun _ h9 => h9) rfl dX5_finish_41 ?_
    refine va_getN (D := zt_D G) (ci := 0) (v := .int (σ 91 1)) (C := RX0) (T := TX0) (N := 8) hx hb hts inX0 hown hK hP 91 (zt_a0 (rfl : zt_kd 91 = 0)) rfl 1 (by decide) fl92 (fun _ h9 => h9) rfl dX5_finish_44 ?_
    refine lv_aload_n hx hb dX5_finish_47 rfl (lv_at hl 0 rfl) ?_
    refine va_get (D := zt_D G) (ci := 4) (v := .ref (zt_ad G 91)) (C := RX5) (T := TX5) (N := 15) hx hb hts inX5 hown hK hP 80 (zt_a4 (rfl : zt_kd 80 = 4)) rfl 2 (by decide) fl21 (fun _ h9 => h9) rfl dX5_finish_48 ?_
    refine va_getN (D := zt_D G) (ci := 0) (v := .int (σ 91 2)) (C := RX0) (T := TX0) (N := 8) hx hb hts inX0 hown hK hP 91 (zt_a0 (rfl : zt_kd 91 = 0)) rfl 2 (by decide) fl68 (fun _ h9 => h9) rfl dX5_finish_51 ?_
    refine lv_aload_n hx hb dX5_finish_54 rfl (lv_at hl 0 rfl) ?_
    refine va_get (D := zt_D G) (ci := 4) (v := .int (σ 80 12)) (C := RX5) (T := TX5) (N := 15) hx hb hts inX5 hown hK hP 80 (zt_a4 (rfl : zt_kd 80 = 4)) rfl 12 (by decide) fl89 (fun _ h9 => h9) rfl dX5_finish_55 ?_
    refine lv_if_eq (tgt := 65) hx hb dX5_finish_58 (by decide) (fun c6 => ?_) (fun c6 => ?_)
    · have hf := (if_pos c6).symm.trans hf
      refine lv_aload_n hx hb dX5_finish_65 rfl (lv_at hl 0 rfl) ?_
      refine va_get (D := zt_D G) (ci := 4) (v := .int (σ 80 9)) (C := RX5) (T := TX5) (N := 15) hx hb hts inX5 hown hK hP 80 (zt_a4 (rfl : zt_kd 80 = 4)) rfl 9 (by decide) fl46 (fun _ h9 => h9) rfl dX5_finish_66 ?_
      exact B69 σ (σ 80 9) (σ 91 2) (σ 91 1) (σ 91 0) _ _ _ hf hP hS (lv_sub hl [0, 1] rfl)
    · have hf := (if_neg c6).symm.trans hf
      refine lv_iconst (v := 0) hx hb dX5_finish_61 (by decide) ?_
      refine lv_goto (tgt := 69) hx hb dX5_finish_62 (by decide) ?_
      exact B69 σ 0 (σ 91 2) (σ 91 1) (σ 91 0) _ _ _ hf hP hS (lv_sub hl [0, 1] rfl)
  unfold f_X5_finish at hf
  refine lv_aload_n hx hb dX5_finish_0 rfl (lv_at hl 0 rfl) ?_
  refine va_get (D := zt_D G) (ci := 4) (v := .ref (zt_ad G 91)) (C := RX5) (T := TX5) (N := 15) hx hb hts inX5 hown hK hP 80 (zt_a4 (rfl : zt_kd 80 = 4)) rfl 2 (by decide) fl21 (fun _ h9 => h9) rfl dX5_finish_1 ?_
  refine va_getN (D := zt_D G) (ci := 0) (v := .int (σ 91 0)) (C := RX0) (T := TX0) (N := 8) hx hb hts inX0 hown hK hP 91 (zt_a0 (rfl : zt_kd 91 = 0)) rfl 0 (by decide) fl40 (fun _ h9 => h9) rfl dX5_finish_4 ?_
  refine lv_if_eq (tgt := 32) hx hb dX5_finish_7 (by decide) (fun c1 => ?_) (fun c1 => ?_)
  · have hf := (if_pos c1).symm.trans hf
    exact B32 σ _ _ _ hf hP hS (lv_sub hl [0, 1] rfl)
  · have hf := (if_neg c1).symm.trans hf
    refine lv_aload_n hx hb dX5_finish_10 rfl (lv_at hl 0 rfl) ?_
    refine va_get (D := zt_D G) (ci := 4) (v := .ref (zt_ad G 91)) (C := RX5) (T := TX5) (N := 15) hx hb hts inX5 hown hK hP 80 (zt_a4 (rfl : zt_kd 80 = 4)) rfl 2 (by decide) fl21 (fun _ h9 => h9) rfl dX5_finish_11 ?_
    refine va_getN (D := zt_D G) (ci := 0) (v := .int (σ 91 0)) (C := RX0) (T := TX0) (N := 8) hx hb hts inX0 hown hK hP 91 (zt_a0 (rfl : zt_kd 91 = 0)) rfl 0 (by decide) fl40 (fun _ h9 => h9) rfl dX5_finish_14 ?_
    refine lv_iconst (v := 1) hx hb dX5_finish_17 (by decide) ?_
    refine lv_icmp_eq (tgt := 32) hx hb dX5_finish_18 (by decide) (fun c2 => ?_) (fun c2 => ?_)
    · have hf := (if_pos c2).symm.trans hf
      exact B32 σ _ _ _ hf hP hS (lv_sub hl [0, 1] rfl)
    · have hf := (if_neg c2).symm.trans hf
      refine lv_aload_n hx hb dX5_finish_21 rfl (lv_at hl 0 rfl) ?_
      refine va_get (D := zt_D G) (ci := 4) (v := .ref (zt_ad G 91)) (C := RX5) (T := TX5) (N := 15) hx hb hts inX5 hown hK hP 80 (zt_a4 (rfl : zt_kd 80 = 4)) rfl 2 (by decide) fl21 (fun _ h9 => h9) rfl dX5_finish_22 ?_
      refine va_getN (D := zt_D G) (ci := 0) (v := .int (σ 91 0)) (C := RX0) (T := TX0) (N := 8) hx hb hts inX0 hown hK hP 91 (zt_a0 (rfl : zt_kd 91 = 0)) rfl 0 (by decide) fl40 (fun _ h9 => h9) rfl dX5_finish_25 ?_
      refine lv_iconst (v := 2) hx hb dX5_finish_28 (by decide) ?_
      refine lv_icmp_ne (tgt := 75) hx hb dX5_finish_29 (by decide) (fun c3 => ?_) (fun c3 => ?_)
      · have hf := (if_neg c3).symm.trans hf
        refine lv_aload_n hx hb dX5_finish_75 rfl (lv_at hl 1 rfl) ?_
        refine lv_bipush (v := 6) hx hb dX5_finish_76 (by decide +kernel) ?_
        refine lv_iconst (v := (-1)) hx hb dX5_finish_78 (by decide) ?_
        refine lv_iconst (v := (-1)) hx hb dX5_finish_79 (by decide) ?_
        refine lv_iconst (v := 0) hx hb dX5_finish_80 (by decide) ?_
        obtain ⟨σ5, hvv4, hf⟩ := zt_bd_some hf
        refine va_callv (va_runV (As := [.int 6, .int (-1), .int (-1), .int 0]) (rest := []) ⟨hx, hb, hml, hown, hts⟩ (m_X0_tell l G hk1 (σ := σ) hvv4) (cwV 4 hts gX5_finish_X0_tell rfl rfl rfl zh_X0_tell ⟨Nat.le_of_ble_eq_true rfl, Nat.le_of_ble_eq_true rfl⟩) ⟨zt_blind, va_recv hK hP (ci := 0) (q0 := k1) rfl (zt_a0 hk1), fun U hU hW => ⟨rfl, zt_go hE hP hS zt_id hU hW⟩⟩ rfl rfl hl.1 rfl (lv_room (Nat.le_of_ble_eq_true rfl)) dX5_finish_81 ⟨Nat.zero_le _, Nat.zero_le _⟩) hS (fun _ _ h => h) (fun _ h => h) (fun u t H locs ht hvm hw hB _ _ hS => ?_)
        have hB : zt_B G u t := hB; rw [hw] at hB; have hP := zt_B.P hB ht
        exact B84 σ5 _ _ _ hf hP hS (lv_sub hl [0, 1] rfl)
      · have hf := (if_pos c3).symm.trans hf
        exact B32 σ _ _ _ hf hP hS (lv_sub hl [0, 1] rfl)

theorem zh_X5_run : yX5_run.cls = RX5 ∧ yX5_run.cls ≠ "java/lang/invoke/MethodHandle" ∧ yX5_run.cls ≠ "java/lang/invoke/VarHandle" ∧ (parseMethodDescriptor yX5_run.desc).map (fun d => d.parameters.length) = some 4 := by decide +kernel
set_option maxHeartbeats 4000000 in
set_option maxRecDepth 100000 in
theorem m_X5_run (l : Launch) (G : zt_G) {σ : zt_St} {x1 : Int32} {x2 : Int32} {x3 : Int32} {k4 : Nat} (hk4 : zt_kd k4 = 0) {σ1 : zt_St} (hf : f_X5_run σ x1 x2 x3 k4 = some σ1) : zt_Mv l G yX5_run wsX5_run 6 146 [.ref (zt_ad G 80), .int x1, .int x2, .int x3, .ref (zt_ad G k4)] σ σ1 := by
  refine Met.ofW (cc := cX5_run) (maxL := 6) (ret := none) (by decide) rfl ?_
  intro p e s m args below meth c s₁ B hml hv
  obtain ⟨rfl, hBB⟩ := hv
  have hE := zt_B.env hBB; have hK := hE.2.1; have hP := hBB.2.1
  have hx := B.exec; have hb := B.bytes; have hr := B.returns; have hts := atoms_spec (ws := wsX5_run) B.pre
  have hown : s.vm.findClass RX5 = some m.cls := findClass_of_methodNamed B.named
  have hlocks := B.notSynchronized
  have hS : va_S (zt_A G) s.heap s.heap [] := va_S.rf
  have hl := lv_entry ([.ref (zt_ad G 80), .int x1, .int x2, .int x3, .ref (zt_ad G k4)]) (n := 6) (Nat.le_of_ble_eq_true rfl)
  rw [lg_entry_eq]
  generalize (lg_sl ([.ref (zt_ad G 80), .int x1, .int x2, .int x3, .ref (zt_ad G k4)]) ++ List.replicate (6 - (lg_sl ([.ref (zt_ad G 80), .int x1, .int x2, .int x3, .ref (zt_ad G k4)])).length) Slot.unset).toArray = ls at hl ⊢
  have hl : lv_has ls 6 [(0, .ref (zt_ad G 80)), (1, .int x1), (2, .int x2), (3, .int x3), (4, .ref (zt_ad G k4))] := hl
  show W p l e (zt_R 6 146) s m ([.ref (zt_ad G 80), .int x1, .int x2, .int x3, .ref (zt_ad G k4)] : List Value).toArray below meth c s.heap [] 0 0 (MQ below (zt_Cv G σ1) ([.ref (zt_ad G 80), .int x1, .int x2, .int x3, .ref (zt_ad G k4)] : List Value).toArray s 0 0 (zt_A G)) (F0 m 0 ls [])
  have fl21 := hts (.fieldLink RX5 21 "ZoneTree$Resolver" "part" "LZoneTree$Answer;") (List.mem_cons_of_mem _ (List.mem_append_left _ (List.mem_append_left _ (List.mem_append_left _ (List.mem_append_left _ (List.mem_append_left _ (List.mem_append_left _ (List.mem_append_left _ (List.mem_of_getElem? (i := 0) rfl)))))))))
  have fl40 := zt_Nw.use (args := ([.ref (zt_ad G 80), .int x1, .int x2, .int x3, .ref (zt_ad G k4)] : List Value).toArray) hE.2.2.1 (q := ("ZoneTree$Resolver", 40, "ZoneTree$Answer", "kind", "I", "ZoneTree")) (List.mem_of_getElem? (i := 13) rfl)
  have fl46 := hts (.fieldLink RX5 46 "ZoneTree$Resolver" "life" "I") (List.mem_cons_of_mem _ (List.mem_append_left _ (List.mem_append_left _ (List.mem_append_left _ (List.mem_append_left _ (List.mem_append_left _ (List.mem_append_left _ (List.mem_append_left _ (List.mem_of_getElem? (i := 1) rfl)))))))))
  have fl49 := zt_Nw.use (args := ([.ref (zt_ad G 80), .int x1, .int x2, .int x3, .ref (zt_ad G k4)] : List Value).toArray) hE.2.2.1 (q := ("ZoneTree$Resolver", 49, "ZoneTree$Answer", "life", "I", "ZoneTree")) (List.mem_of_getElem? (i := 20) rfl)
  have fl56 := hts (.fieldLink RX5 56 "ZoneTree$Resolver" "worstTrust" "I") (List.mem_cons_of_mem _ (List.mem_append_left _ (List.mem_append_left _ (List.mem_append_left _ (List.mem_append_left _ (List.mem_append_left _ (List.mem_append_left _ (List.mem_append_left _ (List.mem_of_getElem? (i := 6) rfl)))))))))
  have fl59 := hts (.fieldLink RX5 59 "ZoneTree$Resolver" "zoneTrust" "I") (List.mem_cons_of_mem _ (List.mem_append_left _ (List.mem_append_left _ (List.mem_append_left _ (List.mem_append_left _ (List.mem_append_left _ (List.mem_append_left _ (List.mem_append_left _ (List.mem_of_getElem? (i := 7) rfl)))))))))
  have fl65 := hts (.fieldLink RX5 65 "ZoneTree$Resolver" "ledTimes" "I") (List.mem_cons_of_mem _ (List.mem_append_left _ (List.mem_append_left _ (List.mem_append_left _ (List.mem_append_left _ (List.mem_append_left _ (List.mem_append_left _ (List.mem_append_left _ (List.mem_of_getElem? (i := 11) rfl)))))))))
  have fl68 := zt_Nw.use (args := ([.ref (zt_ad G 80), .int x1, .int x2, .int x3, .ref (zt_ad G k4)] : List Value).toArray) hE.2.2.1 (q := ("ZoneTree$Resolver", 68, "ZoneTree$Answer", "name", "I", "ZoneTree")) (List.mem_of_getElem? (i := 18) rfl)
  have fl71 := hts (.fieldLink RX5 71 "ZoneTree$Resolver" "name" "I") (List.mem_cons_of_mem _ (List.mem_append_left _ (List.mem_append_left _ (List.mem_append_left _ (List.mem_append_left _ (List.mem_append_left _ (List.mem_append_left _ (List.mem_append_left _ (List.mem_of_getElem? (i := 12) rfl)))))))))
  have fl72 := hts (.fieldLink RX5 72 "ZoneTree$Resolver" "zone" "I") (List.mem_cons_of_mem _ (List.mem_append_left _ (List.mem_append_left _ (List.mem_append_left _ (List.mem_append_left _ (List.mem_append_left _ (List.mem_append_left _ (List.mem_append_left _ (List.mem_of_getElem? (i := 13) rfl)))))))))
  have inX0 : ∀ w ∈ wsX00, w ∈ wsX5_run := fun w h => (List.mem_cons_of_mem _ (List.mem_append_left _ (List.mem_append_left _ (List.mem_append_left _ (List.mem_append_left _ (List.mem_append_right _ h))))))
  have inX5 : ∀ w ∈ wsX50, w ∈ wsX5_run := fun w h => (List.mem_cons_of_mem _ (List.mem_append_left _ (List.mem_append_left _ (List.mem_append_left _ (List.mem_append_left _ (List.mem_append_left _ (List.mem_append_right _ h)))))))
  have B131 : ∀ (σ : zt_St) (H : Heap) (locs : List Loc) (ls : Array Slot), f_X5_run_131 k4 σ = some σ1 → va_P (zt_D G) vwCl (zt_ww G σ) H → va_S (zt_A G) s.heap H locs → lv_has ls 6 [(0, .ref (zt_ad G 80)), (4, .ref (zt_ad G k4))] → W p l e (zt_R 6 146) s m ([.ref (zt_ad G 80), .int x1, .int x2, .int x3, .ref (zt_ad G k4)] : List Value).toArray below meth c H locs 0 0 (MQ below (zt_Cv G σ1) ([.ref (zt_ad G 80), .int x1, .int x2, .int x3, .ref (zt_ad G k4)] : List Value).toArray s 0 0 (zt_A G)) (F0 m 131 ls []) := by
    intro σ H locs ls hf hP hS hl
    unfold f_X5_run_131 at hf
    refine lv_aload_n hx hb dX5_run_131 rfl (lv_at hl 0 rfl) ?_
    refine lv_aload hx hb dX5_run_132 (lv_at hl 1 rfl) ?_
    obtain ⟨σ17, hvv16, hf⟩ := zt_bd_some hf
    refine va_callv (va_runV (As := [.ref (zt_ad G k4)]) (rest := []) ⟨hx, hb, hml, hown, hts⟩ (m_X5_finish l G hk4 (σ := σ) hvv16) (cwV 1 hts gX5_run_X5_finish rfl rfl rfl zh_X5_finish ⟨Nat.le_of_ble_eq_true rfl, Nat.le_of_ble_eq_true rfl⟩) ⟨zt_blind, va_recv hK hP (ci := 4) (q0 := 80) rfl (zt_a4 (rfl : zt_kd 80 = 4)), fun U hU hW => ⟨rfl, zt_go hE hP hS zt_id hU hW⟩⟩ rfl rfl hl.1 rfl (lv_room (Nat.le_of_ble_eq_true rfl)) dX5_run_134 ⟨Nat.zero_le _, Nat.zero_le _⟩) hS (fun _ _ h => h) (fun _ h => h) (fun u t H locs ht hvm hw hB _ _ hS => ?_)
    have hB : zt_B G u t := hB; rw [hw] at hB; have hP := zt_B.P hB ht
    exact W.vret hx hb hr (fun t ht hW => ⟨⟨_, rfl, (Option.some.inj hf), zt_go hE hP hS zt_id ht hW⟩, hS.F ht⟩) hS.2.2 dX5_run_137
  have B125 : ∀ (rc10 : zt_St → Int32 → Option (zt_St)) (hrc10 : ∀ (σ : zt_St) (u5 : Int32) (H : Heap) (locs : List Loc) (ls : Array Slot), rc10 σ u5 = some σ1 → va_P (zt_D G) vwCl (zt_ww G σ) H → va_S (zt_A G) s.heap H locs → lv_has ls 6 [(0, .ref (zt_ad G 80)), (4, .ref (zt_ad G k4)), (5, .int u5)] → W p l e (zt_R 6 146) s m ([.ref (zt_ad G 80), .int x1, .int x2, .int x3, .ref (zt_ad G k4)] : List Value).toArray below meth c H locs 0 0 (MQ below (zt_Cv G σ1) ([.ref (zt_ad G 80), .int x1, .int x2, .int x3, .ref (zt_ad G k4)] : List Value).toArray s 0 0 (zt_A G)) (F0 m 10 ls [])), ∀ (σ : zt_St) (u5 : Int32) (H : Heap) (locs : List Loc) (ls : Array Slot), f_X5_run_125 k4 rc10 σ u5 = some σ1 → va_P (zt_D G) vwCl (zt_ww G σ) H → va_S (zt_A G) s.heap H locs → lv_has ls 6 [(0, .ref (zt_ad G 80)), (4, .ref (zt_ad G k4)), (5, .int u5)] → W p l e (zt_R 6 146) s m ([.ref (zt_ad G 80), .int x1, .int x2, .int x3, .ref (zt_ad G k4)] : List Value).toArray below meth c H locs 0 0 (MQ below (zt_Cv G σ1) ([.ref (zt_ad G 80), .int x1, .int x2, .int x3, .ref (zt_ad G k4)] : List Value).toArray s 0 0 (zt_A G)) (F0 m 125 ls []) := by
    intro rc10 hrc10 σ u5 H locs ls hf hP hS hl
    unfold f_X5_run_125 at hf
    refine lv_iinc (v := (u5 + 1)) (lv' := [(5, .int (u5 + 1)), (0, .ref (zt_ad G 80)), (4, .ref (zt_ad G k4))]) hx hb dX5_run_125 hl (k := 2) rfl rfl (by decide) rfl (fun ls hl => ?_)
    refine lv_goto (tgt := 10) hx hb dX5_run_128 (by decide) ?_
    exact hrc10 σ (u5 + 1) _ _ _ hf hP hS (lv_sub hl [1, 2, 0] rfl)
  have B10 : ∀ (n : Nat), ∀ (σ : zt_St) (u5 : Int32) (H : Heap) (locs : List Loc) (ls : Array Slot), f_X5_run_10 k4 n σ u5 = some σ1 → va_P (zt_D G) vwCl (zt_ww G σ) H → va_S (zt_A G) s.heap H locs → lv_has ls 6 [(0, .ref (zt_ad G 80)), (4, .ref (zt_ad G k4)), (5, .int u5)] → W p l e (zt_R 6 146) s m ([.ref (zt_ad G 80), .int x1, .int x2, .int x3, .ref (zt_ad G k4)] : List Value).toArray below meth c H locs 0 0 (MQ below (zt_Cv G σ1) ([.ref (zt_ad G 80), .int x1, .int x2, .int x3, .ref (zt_ad G k4)] : List Value).toArray s 0 0 (zt_A G)) (F0 m 10 ls []) := by
    intro n
    induction n with
    | zero => intro σ u5 H locs ls hf; exact nomatch hf
    | succ n hrc10 =>
      intro σ u5 H locs ls hf hP hS hl
      generalize hrcg : f_X5_run_10 k4 n = rc10 at hrc10
      have hf : f_X5_run_10b k4 rc10 σ u5 = some σ1 := by rw [← hrcg]; exact hf
      unfold f_X5_run_10b at hf
      refine lv_iload hx hb dX5_run_10 (lv_at hl 2 rfl) ?_
      refine lv_sipush (v := 1000) hx hb dX5_run_12 (by decide +kernel) ?_
      refine lv_icmp_ge (tgt := 131) hx hb dX5_run_15 (by decide) (fun c3 => ?_) (fun c3 => ?_)
      · have hf := (if_pos c3).symm.trans hf
        exact B131 σ _ _ _ hf hP hS (lv_sub hl [0, 1] rfl)
      · have hf := (if_neg c3).symm.trans hf
        refine lv_aload_n hx hb dX5_run_18 rfl (lv_at hl 0 rfl) ?_
        obtain ⟨σ5, hvv4, hf⟩ := zt_bd_some hf
        refine va_callv (va_runV (As := []) (rest := []) ⟨hx, hb, hml, hown, hts⟩ (m_X5_takePart l G (σ := σ) hvv4) (cwV 0 hts gX5_run_X5_takePart rfl rfl rfl zh_X5_takePart ⟨Nat.le_of_ble_eq_true rfl, Nat.le_of_ble_eq_true rfl⟩) ⟨zt_blind, va_recv hK hP (ci := 4) (q0 := 80) rfl (zt_a4 (rfl : zt_kd 80 = 4)), fun U hU hW => ⟨rfl, zt_go hE hP hS zt_id hU hW⟩⟩ rfl rfl hl.1 rfl (lv_room (Nat.le_of_ble_eq_true rfl)) dX5_run_19 ⟨Nat.zero_le _, Nat.zero_le _⟩) hS (fun _ _ h => h) (fun _ h => h) (fun u t H locs ht hvm hw hB _ _ hS => ?_)
        have hB : zt_B G u t := hB; rw [hw] at hB; have hP := zt_B.P hB ht
        refine lv_aload_n hx hb dX5_run_22 rfl (lv_at hl 0 rfl) ?_
        refine va_get (D := zt_D G) (ci := 4) (v := .ref (zt_ad G 91)) (C := RX5) (T := TX5) (N := 15) hx hb hts inX5 hown hK hP 80 (zt_a4 (rfl : zt_kd 80 = 4)) rfl 2 (by decide) fl21 (fun _ h9 => h9) rfl dX5_run_23 ?_
        refine va_getN (D := zt_D G) (ci := 0) (v := .int (σ5 91 0)) (C := RX0) (T := TX0) (N := 8) hx hb hts inX0 hown hK hP 91 (zt_a0 (rfl : zt_kd 91 = 0)) rfl 0 (by decide) fl40 (fun _ h9 => h9) rfl dX5_run_26 ?_
        refine lv_iconst (v := 3) hx hb dX5_run_29 (by decide) ?_
        refine lv_icmp_ne (tgt := 40) hx hb dX5_run_30 (by decide) (fun c6 => ?_) (fun c6 => ?_)
        · have hf := (if_neg c6).symm.trans hf
          refine lv_aload_n hx hb dX5_run_40 rfl (lv_at hl 0 rfl) ?_
          refine lv_aload_n hx hb dX5_run_41 rfl (lv_at hl 0 rfl) ?_
          refine va_get (D := zt_D G) (ci := 4) (v := .int (σ5 80 9)) (C := RX5) (T := TX5) (N := 15) hx hb hts inX5 hown hK hP 80 (zt_a4 (rfl : zt_kd 80 = 4)) rfl 9 (by decide) fl46 (fun _ h9 => h9) rfl dX5_run_42 ?_
          refine lv_aload_n hx hb dX5_run_45 rfl (lv_at hl 0 rfl) ?_
          refine va_get (D := zt_D G) (ci := 4) (v := .ref (zt_ad G 91)) (C := RX5) (T := TX5) (N := 15) hx hb hts inX5 hown hK hP 80 (zt_a4 (rfl : zt_kd 80 = 4)) rfl 2 (by decide) fl21 (fun _ h9 => h9) rfl dX5_run_46 ?_
          refine va_getN (D := zt_D G) (ci := 0) (v := .int (σ5 91 3)) (C := RX0) (T := TX0) (N := 8) hx hb hts inX0 hown hK hP 91 (zt_a0 (rfl : zt_kd 91 = 0)) rfl 3 (by decide) fl49 (fun _ h9 => h9) rfl dX5_run_49 ?_
          refine va_mmin hx hb (hml.trans hl.1.symm) hown (hts (.methodLink RX5 50 Lib.Math.min.name) (List.mem_cons_of_mem _ (List.mem_append_left _ (List.mem_append_left _ (List.mem_append_left _ (List.mem_append_left _ (List.mem_append_left _ (List.mem_append_left _ (List.mem_append_left _ (List.mem_of_getElem? (i := 2) rfl)))))))))) (hts (.static Lib.Math.min.name) (List.mem_cons_of_mem _ (List.mem_append_left _ (List.mem_append_left _ (List.mem_append_left _ (List.mem_append_left _ (List.mem_append_left _ (List.mem_append_left _ (List.mem_append_left _ (List.mem_of_getElem? (i := 3) rfl)))))))))) (hts (.initialized "java/lang/Math") (List.mem_cons_of_mem _ (List.mem_append_left _ (List.mem_append_left _ (List.mem_append_left _ (List.mem_append_left _ (List.mem_append_left _ (List.mem_append_left _ (List.mem_append_left _ (List.mem_of_getElem? (i := 4) rfl)))))))))) (hts (.code Lib.Math.min.name Lib.Math.min.code 2 (some .int)) (List.mem_cons_of_mem _ (List.mem_append_left _ (List.mem_append_left _ (List.mem_append_left _ (List.mem_append_left _ (List.mem_append_left _ (List.mem_append_left _ (List.mem_append_left _ (List.mem_of_getElem? (i := 5) rfl)))))))))) (Nat.le_of_ble_eq_true rfl) (Nat.le_of_ble_eq_true rfl) (Nat.zero_le _) (Nat.zero_le _) dX5_run_52 ?_
          obtain ⟨σ7, hσ7, hf⟩ := zt_lt_some hf
          refine va_put (D := zt_D G) (ci := 4) (v := .int (if (σ5 91 3) < (σ5 80 9) then (σ5 91 3) else (σ5 80 9))) (ty := .int) (C := RX5) (T := TX5) (N := 15) hx hb hts inX5 tyX5 tyX5_ok nmX5 hown hK hP (zt_apart hE.1) hS 80 (zt_a4 (rfl : zt_kd 80 = 4)) rfl 9 (by decide) fl46 (fun _ h9 => h9) rfl (tyX5_ok 9 (by decide)) rfl rfl (Nat.le_of_ble_eq_true rfl) dX5_run_55 (fun H locs hP _ hS => ?_)
          rw [zt_p4_9 (rfl : zt_kd 80 = 4), ← hσ7] at hP
          refine lv_aload_n hx hb dX5_run_58 rfl (lv_at hl 0 rfl) ?_
          refine lv_aload_n hx hb dX5_run_59 rfl (lv_at hl 0 rfl) ?_
          refine va_get (D := zt_D G) (ci := 4) (v := .int (σ7 80 14)) (C := RX5) (T := TX5) (N := 15) hx hb hts inX5 hown hK hP 80 (zt_a4 (rfl : zt_kd 80 = 4)) rfl 14 (by decide) fl56 (fun _ h9 => h9) rfl dX5_run_60 ?_
          refine lv_aload_n hx hb dX5_run_63 rfl (lv_at hl 0 rfl) ?_
          refine va_get (D := zt_D G) (ci := 4) (v := .int (σ7 80 13)) (C := RX5) (T := TX5) (N := 15) hx hb hts inX5 hown hK hP 80 (zt_a4 (rfl : zt_kd 80 = 4)) rfl 13 (by decide) fl59 (fun _ h9 => h9) rfl dX5_run_64 ?_
          refine va_mmax hx hb (hml.trans hl.1.symm) hown (hts (.methodLink RX5 62 Lib.Math.max.name) (List.mem_cons_of_mem _ (List.mem_append_left _ (List.mem_append_left _ (List.mem_append_left _ (List.mem_append_left _ (List.mem_append_left _ (List.mem_append_left _ (List.mem_append_left _ (List.mem_of_getElem? (i := 8) rfl)))))))))) (hts (.static Lib.Math.max.name) (List.mem_cons_of_mem _ (List.mem_append_left _ (List.mem_append_left _ (List.mem_append_left _ (List.mem_append_left _ (List.mem_append_left _ (List.mem_append_left _ (List.mem_append_left _ (List.mem_of_getElem? (i := 9) rfl)))))))))) (hts (.initialized "java/lang/Math") (List.mem_cons_of_mem _ (List.mem_append_left _ (List.mem_append_left _ (List.mem_append_left _ (List.mem_append_left _ (List.mem_append_left _ (List.mem_append_left _ (List.mem_append_left _ (List.mem_of_getElem? (i := 4) rfl)))))))))) (hts (.code Lib.Math.max.name Lib.Math.max.code 2 (some .int)) (List.mem_cons_of_mem _ (List.mem_append_left _ (List.mem_append_left _ (List.mem_append_left _ (List.mem_append_left _ (List.mem_append_left _ (List.mem_append_left _ (List.mem_append_left _ (List.mem_of_getElem? (i := 10) rfl)))))))))) (Nat.le_of_ble_eq_true rfl) (Nat.le_of_ble_eq_true rfl) (Nat.zero_le _) (Nat.zero_le _) dX5_run_67 ?_
          obtain ⟨σ8, hσ8, hf⟩ := zt_lt_some hf
          refine va_put (D := zt_D G) (ci := 4) (v := .int (if (σ7 80 14) < (σ7 80 13) then (σ7 80 13) else (σ7 80 14))) (ty := .int) (C := RX5) (T := TX5) (N := 15) hx hb hts inX5 tyX5 tyX5_ok nmX5 hown hK hP (zt_apart hE.1) hS 80 (zt_a4 (rfl : zt_kd 80 = 4)) rfl 14 (by decide) fl56 (fun _ h9 => h9) rfl (tyX5_ok 14 (by decide)) rfl rfl (Nat.le_of_ble_eq_true rfl) dX5_run_70 (fun H locs hP _ hS => ?_)
          rw [zt_p4_14 (rfl : zt_kd 80 = 4), ← hσ8] at hP
          refine lv_aload_n hx hb dX5_run_73 rfl (lv_at hl 0 rfl) ?_
          refine va_get (D := zt_D G) (ci := 4) (v := .ref (zt_ad G 91)) (C := RX5) (T := TX5) (N := 15) hx hb hts inX5 hown hK hP 80 (zt_a4 (rfl : zt_kd 80 = 4)) rfl 2 (by decide) fl21 (fun _ h9 => h9) rfl dX5_run_74 ?_
          refine va_getN (D := zt_D G) (ci := 0) (v := .int (σ8 91 0)) (C := RX0) (T := TX0) (N := 8) hx hb hts inX0 hown hK hP 91 (zt_a0 (rfl : zt_kd 91 = 0)) rfl 0 (by decide) fl40 (fun _ h9 => h9) rfl dX5_run_77 ?_
          refine lv_iconst (v := 4) hx hb dX5_run_80 (by decide) ?_
          refine lv_icmp_eq (tgt := 87) hx hb dX5_run_81 (by decide) (fun c9 => ?_) (fun c9 => ?_)
          · have hf := (if_pos c9).symm.trans hf
            refine lv_aload_n hx hb dX5_run_87 rfl (lv_at hl 0 rfl) ?_
            refine lv_dup hx hb dX5_run_88 rfl ?_
            refine va_get (D := zt_D G) (ci := 4) (v := .int (σ8 80 11)) (C := RX5) (T := TX5) (N := 15) hx hb hts inX5 hown hK hP 80 (zt_a4 (rfl : zt_kd 80 = 4)) rfl 11 (by decide) fl65 (fun _ h9 => h9) rfl dX5_run_89 ?_
            refine lv_iconst (v := 1) hx hb dX5_run_92 (by decide) ?_
            refine lv_iadd hx hb dX5_run_93 ?_
            obtain ⟨σ10, hσ10, hf⟩ := zt_lt_some hf
            refine va_put (D := zt_D G) (ci := 4) (v := .int ((σ8 80 11) + 1)) (ty := .int) (C := RX5) (T := TX5) (N := 15) hx hb hts inX5 tyX5 tyX5_ok nmX5 hown hK hP (zt_apart hE.1) hS 80 (zt_a4 (rfl : zt_kd 80 = 4)) rfl 11 (by decide) fl65 (fun _ h9 => h9) rfl (tyX5_ok 11 (by decide)) rfl rfl (Nat.le_of_ble_eq_true rfl) dX5_run_94 (fun H locs hP _ hS => ?_)
            rw [zt_p4_11 (rfl : zt_kd 80 = 4), ← hσ10] at hP
            refine lv_aload_n hx hb dX5_run_97 rfl (lv_at hl 0 rfl) ?_
            refine va_get (D := zt_D G) (ci := 4) (v := .int (σ10 80 11)) (C := RX5) (T := TX5) (N := 15) hx hb hts inX5 hown hK hP 80 (zt_a4 (rfl : zt_kd 80 = 4)) rfl 11 (by decide) fl65 (fun _ h9 => h9) rfl dX5_run_98 ?_
            refine lv_bipush (v := 9) hx hb dX5_run_101 (by decide +kernel) ?_
            refine lv_icmp_lt (tgt := 109) hx hb dX5_run_103 (by decide) (fun c11 => ?_) (fun c11 => ?_)
            · have hf := (if_pos c11).symm.trans hf
              refine lv_aload_n hx hb dX5_run_109 rfl (lv_at hl 0 rfl) ?_
              refine lv_aload_n hx hb dX5_run_110 rfl (lv_at hl 0 rfl) ?_
              refine va_get (D := zt_D G) (ci := 4) (v := .ref (zt_ad G 91)) (C := RX5) (T := TX5) (N := 15) hx hb hts inX5 hown hK hP 80 (zt_a4 (rfl : zt_kd 80 = 4)) rfl 2 (by decide) fl21 (fun _ h9 => h9) rfl dX5_run_111 ?_
              refine va_getN (D := zt_D G) (ci := 0) (v := .int (σ10 91 2)) (C := RX0) (T := TX0) (N := 8) hx hb hts inX0 hown hK hP 91 (zt_a0 (rfl : zt_kd 91 = 0)) rfl 2 (by decide) fl68 (fun _ h9 => h9) rfl dX5_run_114 ?_
              obtain ⟨σ12, hσ12, hf⟩ := zt_lt_some hf
              refine va_put (D := zt_D G) (ci := 4) (v := .int (σ10 91 2)) (ty := .int) (C := RX5) (T := TX5) (N := 15) hx hb hts inX5 tyX5 tyX5_ok nmX5 hown hK hP (zt_apart hE.1) hS 80 (zt_a4 (rfl : zt_kd 80 = 4)) rfl 6 (by decide) fl71 (fun _ h9 => h9) rfl (tyX5_ok 6 (by decide)) rfl rfl (Nat.le_of_ble_eq_true rfl) dX5_run_117 (fun H locs hP _ hS => ?_)
              rw [zt_p4_6 (rfl : zt_kd 80 = 4), ← hσ12] at hP
              refine lv_aload_n hx hb dX5_run_120 rfl (lv_at hl 0 rfl) ?_
              refine lv_iconst (v := (-1)) hx hb dX5_run_121 (by decide) ?_
              obtain ⟨σ13, hσ13, hf⟩ := zt_lt_some hf
              refine va_put (D := zt_D G) (ci := 4) (v := .int (-1)) (ty := .int) (C := RX5) (T := TX5) (N := 15) hx hb hts inX5 tyX5 tyX5_ok nmX5 hown hK hP (zt_apart hE.1) hS 80 (zt_a4 (rfl : zt_kd 80 = 4)) rfl 8 (by decide) fl72 (fun _ h9 => h9) rfl (tyX5_ok 8 (by decide)) rfl rfl (Nat.le_of_ble_eq_true rfl) dX5_run_122 (fun H locs hP _ hS => ?_)
              rw [zt_p4_8 (rfl : zt_kd 80 = 4), ← hσ13] at hP
              exact B125 rc10 hrc10 σ13 u5 _ _ _ hf hP hS (lv_sub hl [0, 1, 2] rfl)
            · have hf := (if_neg c11).symm.trans hf
              refine lv_goto (tgt := 131) hx hb dX5_run_106 (by decide) ?_
              exact B131 σ10 _ _ _ hf hP hS (lv_sub hl [0, 1] rfl)
          · have hf := (if_neg c9).symm.trans hf
            refine lv_goto (tgt := 131) hx hb dX5_run_84 (by decide) ?_
            exact B131 σ8 _ _ _ hf hP hS (lv_sub hl [0, 1] rfl)
        · have hf := (if_pos c6).symm.trans hf
          refine lv_aload_n hx hb dX5_run_33 rfl (lv_at hl 0 rfl) ?_
          obtain ⟨σ15, hvv14, hf⟩ := zt_bd_some hf
          refine va_callv (va_runV (As := []) (rest := []) ⟨hx, hb, hml, hown, hts⟩ (m_X5_goDown l G (σ := σ5) hvv14) (cwV 0 hts gX5_run_X5_goDown rfl rfl rfl zh_X5_goDown ⟨Nat.le_of_ble_eq_true rfl, Nat.le_of_ble_eq_true rfl⟩) ⟨zt_blind, va_recv hK hP (ci := 4) (q0 := 80) rfl (zt_a4 (rfl : zt_kd 80 = 4)), fun U hU hW => ⟨rfl, zt_go hE hP hS zt_id hU hW⟩⟩ rfl rfl hl.1 rfl (lv_room (Nat.le_of_ble_eq_true rfl)) dX5_run_34 ⟨Nat.zero_le _, Nat.zero_le _⟩) hS (fun _ _ h => h) (fun _ h => h) (fun u t H locs ht hvm hw hB _ _ hS => ?_)
          have hB : zt_B G u t := hB; rw [hw] at hB; have hP := zt_B.P hB ht
          refine lv_goto (tgt := 125) hx hb dX5_run_37 (by decide) ?_
          exact B125 rc10 hrc10 σ15 u5 _ _ _ hf hP hS (lv_sub hl [0, 1, 2] rfl)
  unfold f_X5_run at hf
  refine lv_aload_n hx hb dX5_run_0 rfl (lv_at hl 0 rfl) ?_
  refine lv_iload_n hx hb dX5_run_1 rfl (lv_at hl 1 rfl) ?_
  refine lv_iload_n hx hb dX5_run_2 rfl (lv_at hl 2 rfl) ?_
  refine lv_iload_n hx hb dX5_run_3 rfl (lv_at hl 3 rfl) ?_
  obtain ⟨σ2, hvv1, hf⟩ := zt_bd_some hf
  refine va_callv (va_runV (As := [.int x1, .int x2, .int x3]) (rest := []) ⟨hx, hb, hml, hown, hts⟩ (m_X5_begin l G (σ := σ) hvv1) (cwV 3 hts gX5_run_X5_begin rfl rfl rfl zh_X5_begin ⟨Nat.le_of_ble_eq_true rfl, Nat.le_of_ble_eq_true rfl⟩) ⟨zt_blind, va_recv hK hP (ci := 4) (q0 := 80) rfl (zt_a4 (rfl : zt_kd 80 = 4)), fun U hU hW => ⟨rfl, zt_go hE hP hS zt_id hU hW⟩⟩ rfl rfl hl.1 rfl (lv_room (Nat.le_of_ble_eq_true rfl)) dX5_run_4 ⟨Nat.zero_le _, Nat.zero_le _⟩) hS (fun _ _ h => h) (fun _ h => h) (fun u t H locs ht hvm hw hB _ _ hS => ?_)
  have hB : zt_B G u t := hB; rw [hw] at hB; have hP := zt_B.P hB ht
  refine lv_iconst (v := 0) hx hb dX5_run_7 (by decide) ?_
  refine lv_istore (lv' := [(5, .int 0), (0, .ref (zt_ad G 80)), (1, .int x1), (2, .int x2), (3, .int x3), (4, .ref (zt_ad G k4))]) hx hb dX5_run_8 hl (by decide) rfl (fun ls hl => ?_)
  exact B10 zt_FU σ2 0 _ _ _ hf hP hS (lv_sub hl [1, 5, 0] rfl)

