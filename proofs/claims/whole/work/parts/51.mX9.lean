/-! contracts over the machine, by program: each method does what its function says -/
theorem zh_X9_thrown : yX9_thrown.cls = RX9 ∧ yX9_thrown.cls ≠ "java/lang/invoke/MethodHandle" ∧ yX9_thrown.cls ≠ "java/lang/invoke/VarHandle" ∧ (parseMethodDescriptor yX9_thrown.desc).map (fun d => d.parameters.length) = some 0 := by decide +kernel
set_option maxHeartbeats 4000000 in
set_option maxRecDepth 100000 in
theorem m_X9_thrown (l : Launch) (G : zt_G) {σ : zt_St} {r : Int32} (hf : f_X9_thrown σ = some r) : zt_Mi l G yX9_thrown wsX9_thrown 0 0 [.ref (zt_ad G 94)] σ r σ := by
  refine Met.ofW (cc := cX9_thrown) (maxL := 1) (ret := (some .int)) (by decide) rfl ?_
  intro p e s m args below meth c s₁ B hml hv
  obtain ⟨rfl, hBB⟩ := hv
  have hE := zt_B.env hBB; have hK := hE.2.1; have hP := hBB.2.1
  have hx := B.exec; have hb := B.bytes; have hr := B.returns; have hts := atoms_spec (ws := wsX9_thrown) B.pre
  have hown : s.vm.findClass RX9 = some m.cls := findClass_of_methodNamed B.named
  have hlocks := B.notSynchronized
  have hS : va_S (zt_A G) s.heap s.heap [] := va_S.rf
  have hl := lv_entry ([.ref (zt_ad G 94)]) (n := 1) (Nat.le_of_ble_eq_true rfl)
  rw [lg_entry_eq]
  generalize (lg_sl ([.ref (zt_ad G 94)]) ++ List.replicate (1 - (lg_sl ([.ref (zt_ad G 94)])).length) Slot.unset).toArray = ls at hl ⊢
  have hl : lv_has ls 1 [(0, .ref (zt_ad G 94))] := hl
  show W p l e (zt_R 0 0) s m ([.ref (zt_ad G 94)] : List Value).toArray below meth c s.heap [] 0 0 (MQ below (zt_Ci G r σ) ([.ref (zt_ad G 94)] : List Value).toArray s 0 0 (zt_A G)) (F0 m 0 ls [])
  have fl99 := hts (.fieldLink RX9 99 "ZoneTreeModel" "thrown" "I") (List.mem_cons_of_mem _ (List.mem_append_left _ (List.mem_of_getElem? (i := 0) rfl)))
  have inX9 : ∀ w ∈ wsX90, w ∈ wsX9_thrown := fun w h => (List.mem_cons_of_mem _ (List.mem_append_right _ h))
  unfold f_X9_thrown at hf
  refine lv_aload_n hx hb dX9_thrown_0 rfl (lv_at hl 0 rfl) ?_
  refine va_get (D := zt_D G) (ci := 8) (v := .int (σ 94 0)) (C := RX9) (T := TX9) (N := 37) hx hb hts inX9 hown hK hP 94 (zt_a8 (rfl : zt_kd 94 = 8)) rfl 0 (by decide) fl99 (fun _ h9 => h9) rfl dX9_thrown_1 ?_
  exact W.iret hx hb hr (fun t ht hW => ⟨⟨_, _, rfl, ⟨Option.some.inj hf, rfl⟩, zt_go hE hP hS zt_id ht hW⟩, hS.F ht⟩) hS.2.2 dX9_thrown_4

theorem zh_X9_asked : yX9_asked.cls = RX9 ∧ yX9_asked.cls ≠ "java/lang/invoke/MethodHandle" ∧ yX9_asked.cls ≠ "java/lang/invoke/VarHandle" ∧ (parseMethodDescriptor yX9_asked.desc).map (fun d => d.parameters.length) = some 1 := by decide +kernel
set_option maxHeartbeats 4000000 in
set_option maxRecDepth 100000 in
theorem m_X9_asked (l : Launch) (G : zt_G) {σ : zt_St} {x1 : Int32} {r : Int32} {σ1 : zt_St} (hf : f_X9_asked σ x1 = some (r, σ1)) : zt_Mi l G yX9_asked wsX9_asked 0 0 [.ref (zt_ad G 94), .int x1] σ r σ1 := by
  refine Met.ofW (cc := cX9_asked) (maxL := 2) (ret := (some .boolean)) (by decide) rfl ?_
  intro p e s m args below meth c s₁ B hml hv
  obtain ⟨rfl, hBB⟩ := hv
  have hE := zt_B.env hBB; have hK := hE.2.1; have hP := hBB.2.1
  have hx := B.exec; have hb := B.bytes; have hr := B.returns; have hts := atoms_spec (ws := wsX9_asked) B.pre
  have hown : s.vm.findClass RX9 = some m.cls := findClass_of_methodNamed B.named
  have hlocks := B.notSynchronized
  have hS : va_S (zt_A G) s.heap s.heap [] := va_S.rf
  have hl := lv_entry ([.ref (zt_ad G 94), .int x1]) (n := 2) (Nat.le_of_ble_eq_true rfl)
  rw [lg_entry_eq]
  generalize (lg_sl ([.ref (zt_ad G 94), .int x1]) ++ List.replicate (2 - (lg_sl ([.ref (zt_ad G 94), .int x1])).length) Slot.unset).toArray = ls at hl ⊢
  have hl : lv_has ls 2 [(0, .ref (zt_ad G 94)), (1, .int x1)] := hl
  show W p l e (zt_R 0 0) s m ([.ref (zt_ad G 94), .int x1] : List Value).toArray below meth c s.heap [] 0 0 (MQ below (zt_Ci G r σ1) ([.ref (zt_ad G 94), .int x1] : List Value).toArray s 0 0 (zt_A G)) (F0 m 0 ls [])
  have fl99 := hts (.fieldLink RX9 99 "ZoneTreeModel" "thrown" "I") (List.mem_cons_of_mem _ (List.mem_append_left _ (List.mem_of_getElem? (i := 0) rfl)))
  have inX9 : ∀ w ∈ wsX90, w ∈ wsX9_asked := fun w h => (List.mem_cons_of_mem _ (List.mem_append_right _ h))
  have B10 : ∀ (σ : zt_St) (y0 : Int32) (u1 : Int32) (H : Heap) (locs : List Loc) (ls : Array Slot), f_X9_asked_10 σ y0 u1 = some (r, σ1) → va_P (zt_D G) vwCl (zt_ww G σ) H → va_S (zt_A G) s.heap H locs → lv_has ls 2 [(1, .int u1)] → W p l e (zt_R 0 0) s m ([.ref (zt_ad G 94), .int x1] : List Value).toArray below meth c H locs 0 0 (MQ below (zt_Ci G r σ1) ([.ref (zt_ad G 94), .int x1] : List Value).toArray s 0 0 (zt_A G)) (F0 m 10 ls [.int y0, .ref (zt_ad G 94)]) := by
    intro σ y0 u1 H locs ls hf hP hS hl
    unfold f_X9_asked_10 at hf
    obtain ⟨σ2, hσ2, hf⟩ := zt_lt_some hf
    refine va_put (D := zt_D G) (ci := 8) (v := .int y0) (ty := .int) (C := RX9) (T := TX9) (N := 37) hx hb hts inX9 tyX9 tyX9_ok nmX9 hown hK hP (zt_apart hE.1) hS 94 (zt_a8 (rfl : zt_kd 94 = 8)) rfl 0 (by decide) fl99 (fun _ h9 => h9) rfl (tyX9_ok 0 (by decide)) rfl rfl (Nat.le_of_ble_eq_true rfl) dX9_asked_10 (fun H locs hP _ hS => ?_)
    rw [zt_p8_0 (rfl : zt_kd 94 = 8), ← hσ2] at hP
    refine lv_iload_n hx hb dX9_asked_13 rfl (lv_at hl 0 rfl) ?_
    obtain ⟨g3, hf⟩ := zt_gd_some hf
    exact W.zret hx hb hr (zt_bn g3).1 (fun t ht hW => ⟨⟨_, _, rfl, (Prod.mk.inj (Option.some.inj hf)), zt_go hE hP hS zt_id ht hW⟩, hS.F ht⟩) hS.2.2 dX9_asked_14
  unfold f_X9_asked at hf
  refine lv_aload_n hx hb dX9_asked_0 rfl (lv_at hl 0 rfl) ?_
  refine lv_iload_n hx hb dX9_asked_1 rfl (lv_at hl 1 rfl) ?_
  refine lv_if_eq (tgt := 9) hx hb dX9_asked_2 (by decide) (fun c1 => ?_) (fun c1 => ?_)
  · have hf := (if_pos c1).symm.trans hf
    refine lv_iconst (v := 1) hx hb dX9_asked_9 (by decide) ?_
    exact B10 σ 1 x1 _ _ _ hf hP hS (lv_sub hl [1] rfl)
  · have hf := (if_neg c1).symm.trans hf
    refine lv_iconst (v := 0) hx hb dX9_asked_5 (by decide) ?_
    refine lv_goto (tgt := 10) hx hb dX9_asked_6 (by decide) ?_
    exact B10 σ 0 x1 _ _ _ hf hP hS (lv_sub hl [1] rfl)

theorem zh_X9_asked_ : yX9_asked_.cls = RX9 ∧ yX9_asked_.cls ≠ "java/lang/invoke/MethodHandle" ∧ yX9_asked_.cls ≠ "java/lang/invoke/VarHandle" ∧ (parseMethodDescriptor yX9_asked_.desc).map (fun d => d.parameters.length) = some 2 := by decide +kernel
set_option maxHeartbeats 4000000 in
set_option maxRecDepth 100000 in
theorem m_X9_asked_ (l : Launch) (G : zt_G) {σ : zt_St} {x1 : Int32} {x2 : Int32} {r : Int32} {σ1 : zt_St} (hf : f_X9_asked_ σ x1 x2 = some (r, σ1)) : zt_Mi l G yX9_asked_ wsX9_asked_ 0 0 [.ref (zt_ad G 94), .int x1, .int x2] σ r σ1 := by
  refine Met.ofW (cc := cX9_asked_) (maxL := 3) (ret := (some .boolean)) (by decide) rfl ?_
  intro p e s m args below meth c s₁ B hml hv
  obtain ⟨rfl, hBB⟩ := hv
  have hE := zt_B.env hBB; have hK := hE.2.1; have hP := hBB.2.1
  have hx := B.exec; have hb := B.bytes; have hr := B.returns; have hts := atoms_spec (ws := wsX9_asked_) B.pre
  have hown : s.vm.findClass RX9 = some m.cls := findClass_of_methodNamed B.named
  have hlocks := B.notSynchronized
  have hS : va_S (zt_A G) s.heap s.heap [] := va_S.rf
  have hl := lv_entry ([.ref (zt_ad G 94), .int x1, .int x2]) (n := 3) (Nat.le_of_ble_eq_true rfl)
  rw [lg_entry_eq]
  generalize (lg_sl ([.ref (zt_ad G 94), .int x1, .int x2]) ++ List.replicate (3 - (lg_sl ([.ref (zt_ad G 94), .int x1, .int x2])).length) Slot.unset).toArray = ls at hl ⊢
  have hl : lv_has ls 3 [(0, .ref (zt_ad G 94)), (1, .int x1), (2, .int x2)] := hl
  show W p l e (zt_R 0 0) s m ([.ref (zt_ad G 94), .int x1, .int x2] : List Value).toArray below meth c s.heap [] 0 0 (MQ below (zt_Ci G r σ1) ([.ref (zt_ad G 94), .int x1, .int x2] : List Value).toArray s 0 0 (zt_A G)) (F0 m 0 ls [])
  have fl99 := hts (.fieldLink RX9 99 "ZoneTreeModel" "thrown" "I") (List.mem_cons_of_mem _ (List.mem_append_left _ (List.mem_of_getElem? (i := 0) rfl)))
  have inX9 : ∀ w ∈ wsX90, w ∈ wsX9_asked_ := fun w h => (List.mem_cons_of_mem _ (List.mem_append_right _ h))
  have B18 : ∀ (σ : zt_St) (y0 : Int32) (H : Heap) (locs : List Loc) (ls : Array Slot), f_X9_asked__18 σ y0 = some (r, σ1) → va_P (zt_D G) vwCl (zt_ww G σ) H → va_S (zt_A G) s.heap H locs → lv_has ls 3 [(0, .ref (zt_ad G 94))] → W p l e (zt_R 0 0) s m ([.ref (zt_ad G 94), .int x1, .int x2] : List Value).toArray below meth c H locs 0 0 (MQ below (zt_Ci G r σ1) ([.ref (zt_ad G 94), .int x1, .int x2] : List Value).toArray s 0 0 (zt_A G)) (F0 m 18 ls [.int y0, .ref (zt_ad G 94)]) := by
    intro σ y0 H locs ls hf hP hS hl
    unfold f_X9_asked__18 at hf
    obtain ⟨σ3, hσ3, hf⟩ := zt_lt_some hf
    refine va_put (D := zt_D G) (ci := 8) (v := .int y0) (ty := .int) (C := RX9) (T := TX9) (N := 37) hx hb hts inX9 tyX9 tyX9_ok nmX9 hown hK hP (zt_apart hE.1) hS 94 (zt_a8 (rfl : zt_kd 94 = 8)) rfl 0 (by decide) fl99 (fun _ h9 => h9) rfl (tyX9_ok 0 (by decide)) rfl rfl (Nat.le_of_ble_eq_true rfl) dX9_asked__18 (fun H locs hP _ hS => ?_)
    rw [zt_p8_0 (rfl : zt_kd 94 = 8), ← hσ3] at hP
    refine lv_aload_n hx hb dX9_asked__21 rfl (lv_at hl 0 rfl) ?_
    refine va_get (D := zt_D G) (ci := 8) (v := .int (σ3 94 0)) (C := RX9) (T := TX9) (N := 37) hx hb hts inX9 hown hK hP 94 (zt_a8 (rfl : zt_kd 94 = 8)) rfl 0 (by decide) fl99 (fun _ h9 => h9) rfl dX9_asked__22 ?_
    refine lv_if_ne (tgt := 32) hx hb dX9_asked__25 (by decide) (fun c4 => ?_) (fun c4 => ?_)
    · have hf := (if_neg c4).symm.trans hf
      refine lv_iconst (v := 0) hx hb dX9_asked__32 (by decide) ?_
      exact W.zret hx hb hr (zt_bn (by decide)).1 (fun t ht hW => ⟨⟨_, _, rfl, (Prod.mk.inj (Option.some.inj hf)), zt_go hE hP hS zt_id ht hW⟩, hS.F ht⟩) hS.2.2 dX9_asked__33
    · have hf := (if_pos c4).symm.trans hf
      refine lv_iconst (v := 1) hx hb dX9_asked__28 (by decide) ?_
      refine lv_goto (tgt := 33) hx hb dX9_asked__29 (by decide) ?_
      exact W.zret hx hb hr (zt_bn (by decide)).1 (fun t ht hW => ⟨⟨_, _, rfl, (Prod.mk.inj (Option.some.inj hf)), zt_go hE hP hS zt_id ht hW⟩, hS.F ht⟩) hS.2.2 dX9_asked__33
  unfold f_X9_asked_ at hf
  refine lv_aload_n hx hb dX9_asked__0 rfl (lv_at hl 0 rfl) ?_
  refine lv_iload_n hx hb dX9_asked__1 rfl (lv_at hl 1 rfl) ?_
  refine lv_if_ne (tgt := 9) hx hb dX9_asked__2 (by decide) (fun c1 => ?_) (fun c1 => ?_)
  · have hf := (if_neg c1).symm.trans hf
    refine lv_iload_n hx hb dX9_asked__9 rfl (lv_at hl 2 rfl) ?_
    refine lv_if_eq (tgt := 17) hx hb dX9_asked__10 (by decide) (fun c2 => ?_) (fun c2 => ?_)
    · have hf := (if_pos c2).symm.trans hf
      refine lv_iconst (v := 2) hx hb dX9_asked__17 (by decide) ?_
      exact B18 σ 2 _ _ _ hf hP hS (lv_sub hl [0] rfl)
    · have hf := (if_neg c2).symm.trans hf
      refine lv_iconst (v := 0) hx hb dX9_asked__13 (by decide) ?_
      refine lv_goto (tgt := 18) hx hb dX9_asked__14 (by decide) ?_
      exact B18 σ 0 _ _ _ hf hP hS (lv_sub hl [0] rfl)
  · have hf := (if_pos c1).symm.trans hf
    refine lv_iconst (v := 1) hx hb dX9_asked__5 (by decide) ?_
    refine lv_goto (tgt := 18) hx hb dX9_asked__6 (by decide) ?_
    exact B18 σ 1 _ _ _ hf hP hS (lv_sub hl [0] rfl)

theorem zh_X9_asked__ : yX9_asked__.cls = RX9 ∧ yX9_asked__.cls ≠ "java/lang/invoke/MethodHandle" ∧ yX9_asked__.cls ≠ "java/lang/invoke/VarHandle" ∧ (parseMethodDescriptor yX9_asked__.desc).map (fun d => d.parameters.length) = some 3 := by decide +kernel
set_option maxHeartbeats 4000000 in
set_option maxRecDepth 100000 in
theorem m_X9_asked__ (l : Launch) (G : zt_G) {σ : zt_St} {x1 : Int32} {x2 : Int32} {x3 : Int32} {r : Int32} {σ1 : zt_St} (hf : f_X9_asked__ σ x1 x2 x3 = some (r, σ1)) : zt_Mi l G yX9_asked__ wsX9_asked__ 0 0 [.ref (zt_ad G 94), .int x1, .int x2, .int x3] σ r σ1 := by
  refine Met.ofW (cc := cX9_asked__) (maxL := 4) (ret := (some .boolean)) (by decide) rfl ?_
  intro p e s m args below meth c s₁ B hml hv
  obtain ⟨rfl, hBB⟩ := hv
  have hE := zt_B.env hBB; have hK := hE.2.1; have hP := hBB.2.1
  have hx := B.exec; have hb := B.bytes; have hr := B.returns; have hts := atoms_spec (ws := wsX9_asked__) B.pre
  have hown : s.vm.findClass RX9 = some m.cls := findClass_of_methodNamed B.named
  have hlocks := B.notSynchronized
  have hS : va_S (zt_A G) s.heap s.heap [] := va_S.rf
  have hl := lv_entry ([.ref (zt_ad G 94), .int x1, .int x2, .int x3]) (n := 4) (Nat.le_of_ble_eq_true rfl)
  rw [lg_entry_eq]
  generalize (lg_sl ([.ref (zt_ad G 94), .int x1, .int x2, .int x3]) ++ List.replicate (4 - (lg_sl ([.ref (zt_ad G 94), .int x1, .int x2, .int x3])).length) Slot.unset).toArray = ls at hl ⊢
  have hl : lv_has ls 4 [(0, .ref (zt_ad G 94)), (1, .int x1), (2, .int x2), (3, .int x3)] := hl
  show W p l e (zt_R 0 0) s m ([.ref (zt_ad G 94), .int x1, .int x2, .int x3] : List Value).toArray below meth c s.heap [] 0 0 (MQ below (zt_Ci G r σ1) ([.ref (zt_ad G 94), .int x1, .int x2, .int x3] : List Value).toArray s 0 0 (zt_A G)) (F0 m 0 ls [])
  have fl99 := hts (.fieldLink RX9 99 "ZoneTreeModel" "thrown" "I") (List.mem_cons_of_mem _ (List.mem_append_left _ (List.mem_of_getElem? (i := 0) rfl)))
  have inX9 : ∀ w ∈ wsX90, w ∈ wsX9_asked__ := fun w h => (List.mem_cons_of_mem _ (List.mem_append_right _ h))
  have B26 : ∀ (σ : zt_St) (y0 : Int32) (H : Heap) (locs : List Loc) (ls : Array Slot), f_X9_asked___26 σ y0 = some (r, σ1) → va_P (zt_D G) vwCl (zt_ww G σ) H → va_S (zt_A G) s.heap H locs → lv_has ls 4 [(0, .ref (zt_ad G 94))] → W p l e (zt_R 0 0) s m ([.ref (zt_ad G 94), .int x1, .int x2, .int x3] : List Value).toArray below meth c H locs 0 0 (MQ below (zt_Ci G r σ1) ([.ref (zt_ad G 94), .int x1, .int x2, .int x3] : List Value).toArray s 0 0 (zt_A G)) (F0 m 26 ls [.int y0, .ref (zt_ad G 94)]) := by
    intro σ y0 H locs ls hf hP hS hl
    unfold f_X9_asked___26 at hf
    obtain ⟨σ4, hσ4, hf⟩ := zt_lt_some hf
    refine va_put (D := zt_D G) (ci := 8) (v := .int y0) (ty := .int) (C := RX9) (T := TX9) (N := 37) hx hb hts inX9 tyX9 tyX9_ok nmX9 hown hK hP (zt_apart hE.1) hS 94 (zt_a8 (rfl : zt_kd 94 = 8)) rfl 0 (by decide) fl99 (fun _ h9 => h9) rfl (tyX9_ok 0 (by decide)) rfl rfl (Nat.le_of_ble_eq_true rfl) dX9_asked___26 (fun H locs hP _ hS => ?_)
    rw [zt_p8_0 (rfl : zt_kd 94 = 8), ← hσ4] at hP
    refine lv_aload_n hx hb dX9_asked___29 rfl (lv_at hl 0 rfl) ?_
    refine va_get (D := zt_D G) (ci := 8) (v := .int (σ4 94 0)) (C := RX9) (T := TX9) (N := 37) hx hb hts inX9 hown hK hP 94 (zt_a8 (rfl : zt_kd 94 = 8)) rfl 0 (by decide) fl99 (fun _ h9 => h9) rfl dX9_asked___30 ?_
    refine lv_if_ne (tgt := 40) hx hb dX9_asked___33 (by decide) (fun c5 => ?_) (fun c5 => ?_)
    · have hf := (if_neg c5).symm.trans hf
      refine lv_iconst (v := 0) hx hb dX9_asked___40 (by decide) ?_
      exact W.zret hx hb hr (zt_bn (by decide)).1 (fun t ht hW => ⟨⟨_, _, rfl, (Prod.mk.inj (Option.some.inj hf)), zt_go hE hP hS zt_id ht hW⟩, hS.F ht⟩) hS.2.2 dX9_asked___41
    · have hf := (if_pos c5).symm.trans hf
      refine lv_iconst (v := 1) hx hb dX9_asked___36 (by decide) ?_
      refine lv_goto (tgt := 41) hx hb dX9_asked___37 (by decide) ?_
      exact W.zret hx hb hr (zt_bn (by decide)).1 (fun t ht hW => ⟨⟨_, _, rfl, (Prod.mk.inj (Option.some.inj hf)), zt_go hE hP hS zt_id ht hW⟩, hS.F ht⟩) hS.2.2 dX9_asked___41
  unfold f_X9_asked__ at hf
  refine lv_aload_n hx hb dX9_asked___0 rfl (lv_at hl 0 rfl) ?_
  refine lv_iload_n hx hb dX9_asked___1 rfl (lv_at hl 1 rfl) ?_
  refine lv_if_ne (tgt := 9) hx hb dX9_asked___2 (by decide) (fun c1 => ?_) (fun c1 => ?_)
  · have hf := (if_neg c1).symm.trans hf
    refine lv_iload_n hx hb dX9_asked___9 rfl (lv_at hl 2 rfl) ?_
    refine lv_if_ne (tgt := 17) hx hb dX9_asked___10 (by decide) (fun c2 => ?_) (fun c2 => ?_)
    · have hf := (if_neg c2).symm.trans hf
      refine lv_iload_n hx hb dX9_asked___17 rfl (lv_at hl 3 rfl) ?_
      refine lv_if_eq (tgt := 25) hx hb dX9_asked___18 (by decide) (fun c3 => ?_) (fun c3 => ?_)
      · have hf := (if_pos c3).symm.trans hf
        refine lv_iconst (v := 3) hx hb dX9_asked___25 (by decide) ?_
        exact B26 σ 3 _ _ _ hf hP hS (lv_sub hl [0] rfl)
      · have hf := (if_neg c3).symm.trans hf
        refine lv_iconst (v := 0) hx hb dX9_asked___21 (by decide) ?_
        refine lv_goto (tgt := 26) hx hb dX9_asked___22 (by decide) ?_
        exact B26 σ 0 _ _ _ hf hP hS (lv_sub hl [0] rfl)
    · have hf := (if_pos c2).symm.trans hf
      refine lv_iconst (v := 2) hx hb dX9_asked___13 (by decide) ?_
      refine lv_goto (tgt := 26) hx hb dX9_asked___14 (by decide) ?_
      exact B26 σ 2 _ _ _ hf hP hS (lv_sub hl [0] rfl)
  · have hf := (if_pos c1).symm.trans hf
    refine lv_iconst (v := 1) hx hb dX9_asked___5 (by decide) ?_
    refine lv_goto (tgt := 26) hx hb dX9_asked___6 (by decide) ?_
    exact B26 σ 1 _ _ _ hf hP hS (lv_sub hl [0] rfl)

theorem zh_X9_in : yX9_in.cls ≠ "java/lang/invoke/MethodHandle" ∧ yX9_in.cls ≠ "java/lang/invoke/VarHandle" ∧ (parseMethodDescriptor yX9_in.desc).map (fun d => d.parameters.length) = some 3 := by decide +kernel
set_option maxHeartbeats 4000000 in
set_option maxRecDepth 100000 in
theorem m_X9_in (l : Launch) (G : zt_G) {σ : zt_St} {x0 : Int32} {x1 : Int32} {x2 : Int32} {r : Int32} (hf : f_X9_in x0 x1 x2 = some r) : zt_Mi l G yX9_in wsX9_in 0 0 [.int x0, .int x1, .int x2] σ r σ := by
  refine Met.ofW (cc := cX9_in) (maxL := 3) (ret := (some .boolean)) (by decide) rfl ?_
  intro p e s m args below meth c s₁ B hml hv
  obtain ⟨rfl, hBB⟩ := hv
  have hE := zt_B.env hBB; have hK := hE.2.1; have hP := hBB.2.1
  have hx := B.exec; have hb := B.bytes; have hr := B.returns; have hts := atoms_spec (ws := wsX9_in) B.pre
  have hown : s.vm.findClass RX9 = some m.cls := findClass_of_methodNamed B.named
  have hlocks := B.notSynchronized
  have hS : va_S (zt_A G) s.heap s.heap [] := va_S.rf
  have hl := lv_entry ([.int x0, .int x1, .int x2]) (n := 3) (Nat.le_of_ble_eq_true rfl)
  rw [lg_entry_eq]
  generalize (lg_sl ([.int x0, .int x1, .int x2]) ++ List.replicate (3 - (lg_sl ([.int x0, .int x1, .int x2])).length) Slot.unset).toArray = ls at hl ⊢
  have hl : lv_has ls 3 [(0, .int x0), (1, .int x1), (2, .int x2)] := hl
  show W p l e (zt_R 0 0) s m ([.int x0, .int x1, .int x2] : List Value).toArray below meth c s.heap [] 0 0 (MQ below (zt_Ci G r σ) ([.int x0, .int x1, .int x2] : List Value).toArray s 0 0 (zt_A G)) (F0 m 0 ls [])
  unfold f_X9_in at hf
  refine lv_iload_n hx hb dX9_in_0 rfl (lv_at hl 0 rfl) ?_
  refine lv_iload_n hx hb dX9_in_1 rfl (lv_at hl 1 rfl) ?_
  refine lv_icmp_lt (tgt := 14) hx hb dX9_in_2 (by decide) (fun c1 => ?_) (fun c1 => ?_)
  · have hf := (if_pos c1).symm.trans hf
    refine lv_iconst (v := 0) hx hb dX9_in_14 (by decide) ?_
    exact W.zret hx hb hr (zt_bn (by decide)).1 (fun t ht hW => ⟨⟨_, _, rfl, ⟨Option.some.inj hf, rfl⟩, zt_go hE hP hS zt_id ht hW⟩, hS.F ht⟩) hS.2.2 dX9_in_15
  · have hf := (if_neg c1).symm.trans hf
    refine lv_iload_n hx hb dX9_in_5 rfl (lv_at hl 0 rfl) ?_
    refine lv_iload_n hx hb dX9_in_6 rfl (lv_at hl 2 rfl) ?_
    refine lv_icmp_gt (tgt := 14) hx hb dX9_in_7 (by decide) (fun c2 => ?_) (fun c2 => ?_)
    · have hf := (if_pos c2).symm.trans hf
      refine lv_iconst (v := 0) hx hb dX9_in_14 (by decide) ?_
      exact W.zret hx hb hr (zt_bn (by decide)).1 (fun t ht hW => ⟨⟨_, _, rfl, ⟨Option.some.inj hf, rfl⟩, zt_go hE hP hS zt_id ht hW⟩, hS.F ht⟩) hS.2.2 dX9_in_15
    · have hf := (if_neg c2).symm.trans hf
      refine lv_iconst (v := 1) hx hb dX9_in_10 (by decide) ?_
      refine lv_goto (tgt := 15) hx hb dX9_in_11 (by decide) ?_
      exact W.zret hx hb hr (zt_bn (by decide)).1 (fun t ht hW => ⟨⟨_, _, rfl, ⟨Option.some.inj hf, rfl⟩, zt_go hE hP hS zt_id ht hW⟩, hS.F ht⟩) hS.2.2 dX9_in_15

theorem zh_X9_figures : yX9_figures.cls ≠ "java/lang/invoke/MethodHandle" ∧ yX9_figures.cls ≠ "java/lang/invoke/VarHandle" ∧ (parseMethodDescriptor yX9_figures.desc).map (fun d => d.parameters.length) = some 1 := by decide +kernel
set_option maxHeartbeats 4000000 in
set_option maxRecDepth 100000 in
theorem m_X9_figures (l : Launch) (G : zt_G) {σ : zt_St} {x0 : Int32} {r : Int32} (hf : f_X9_figures x0 = some r) : zt_Mi l G yX9_figures wsX9_figures 0 0 [.int x0] σ r σ := by
  refine Met.ofW (cc := cX9_figures) (maxL := 3) (ret := (some .int)) (by decide) rfl ?_
  intro p e s m args below meth c s₁ B hml hv
  obtain ⟨rfl, hBB⟩ := hv
  have hE := zt_B.env hBB; have hK := hE.2.1; have hP := hBB.2.1
  have hx := B.exec; have hb := B.bytes; have hr := B.returns; have hts := atoms_spec (ws := wsX9_figures) B.pre
  have hown : s.vm.findClass RX9 = some m.cls := findClass_of_methodNamed B.named
  have hlocks := B.notSynchronized
  have hS : va_S (zt_A G) s.heap s.heap [] := va_S.rf
  have hl := lv_entry ([.int x0]) (n := 3) (Nat.le_of_ble_eq_true rfl)
  rw [lg_entry_eq]
  generalize (lg_sl ([.int x0]) ++ List.replicate (3 - (lg_sl ([.int x0])).length) Slot.unset).toArray = ls at hl ⊢
  have hl : lv_has ls 3 [(0, .int x0)] := hl
  show W p l e (zt_R 0 0) s m ([.int x0] : List Value).toArray below meth c s.heap [] 0 0 (MQ below (zt_Ci G r σ) ([.int x0] : List Value).toArray s 0 0 (zt_A G)) (F0 m 0 ls [])
  have B4 : ∀ (n : Nat), ∀ (u1 : Int32) (u2 : Int32) (H : Heap) (locs : List Loc) (ls : Array Slot), f_X9_figures_4 n u1 u2 = some r → va_P (zt_D G) vwCl (zt_ww G σ) H → va_S (zt_A G) s.heap H locs → lv_has ls 3 [(1, .int u1), (2, .int u2)] → W p l e (zt_R 0 0) s m ([.int x0] : List Value).toArray below meth c H locs 0 0 (MQ below (zt_Ci G r σ) ([.int x0] : List Value).toArray s 0 0 (zt_A G)) (F0 m 4 ls []) := by
    intro n
    induction n with
    | zero => intro u1 u2 H locs ls hf; exact nomatch hf
    | succ n hrc4 =>
      intro u1 u2 H locs ls hf hP hS hl
      generalize hrcg : f_X9_figures_4 n = rc4 at hrc4
      have hf : f_X9_figures_4b rc4 u1 u2 = some r := by rw [← hrcg]; exact hf
      unfold f_X9_figures_4b at hf
      refine lv_iload_n hx hb dX9_figures_4 rfl (lv_at hl 1 rfl) ?_
      refine lv_if_le (tgt := 19) hx hb dX9_figures_5 (by decide) (fun c1 => ?_) (fun c1 => ?_)
      · have hf := (if_pos c1).symm.trans hf
        refine lv_iload_n hx hb dX9_figures_19 rfl (lv_at hl 0 rfl) ?_
        exact W.iret hx hb hr (fun t ht hW => ⟨⟨_, _, rfl, ⟨Option.some.inj hf, rfl⟩, zt_go hE hP hS zt_id ht hW⟩, hS.F ht⟩) hS.2.2 dX9_figures_20
      · have hf := (if_neg c1).symm.trans hf
        refine lv_iinc (v := (u1 + 1)) (lv' := [(1, .int (u1 + 1)), (2, .int u2)]) hx hb dX9_figures_8 hl (k := 0) rfl rfl (by decide) rfl (fun ls hl => ?_)
        refine lv_iload_n hx hb dX9_figures_11 rfl (lv_at hl 1 rfl) ?_
        refine lv_bipush (v := 10) hx hb dX9_figures_12 (by decide +kernel) ?_
        refine lv_idiv hx hb dX9_figures_14 (by decide) ?_
        refine lv_istore_n (lv' := [(2, .int (u2 / 10)), (1, .int (u1 + 1))]) hx hb dX9_figures_15 rfl hl (by decide) rfl (fun ls hl => ?_)
        refine lv_goto (tgt := 4) hx hb dX9_figures_16 (by decide) ?_
        exact hrc4 (u1 + 1) (u2 / 10) _ _ _ hf hP hS (lv_sub hl [1, 0] rfl)
  unfold f_X9_figures at hf
  refine lv_iconst (v := 0) hx hb dX9_figures_0 (by decide) ?_
  refine lv_istore_n (lv' := [(1, .int 0), (0, .int x0)]) hx hb dX9_figures_1 rfl hl (by decide) rfl (fun ls hl => ?_)
  refine lv_iload_n hx hb dX9_figures_2 rfl (lv_at hl 1 rfl) ?_
  refine lv_istore_n (lv' := [(2, .int x0), (1, .int 0), (0, .int x0)]) hx hb dX9_figures_3 rfl hl (by decide) rfl (fun ls hl => ?_)
  exact B4 zt_FU 0 x0 _ _ _ hf hP hS (lv_sub hl [1, 0] rfl)

theorem zh_X9_isName : yX9_isName.cls ≠ "java/lang/invoke/MethodHandle" ∧ yX9_isName.cls ≠ "java/lang/invoke/VarHandle" ∧ (parseMethodDescriptor yX9_isName.desc).map (fun d => d.parameters.length) = some 1 := by decide +kernel
set_option maxHeartbeats 4000000 in
set_option maxRecDepth 100000 in
theorem m_X9_isName (l : Launch) (G : zt_G) {σ : zt_St} {x0 : Int32} {r : Int32} (hf : f_X9_isName x0 = some r) : zt_Mi l G yX9_isName wsX9_isName 1 22 [.int x0] σ r σ := by
  refine Met.ofW (cc := cX9_isName) (maxL := 3) (ret := (some .boolean)) (by decide) rfl ?_
  intro p e s m args below meth c s₁ B hml hv
  obtain ⟨rfl, hBB⟩ := hv
  have hE := zt_B.env hBB; have hK := hE.2.1; have hP := hBB.2.1
  have hx := B.exec; have hb := B.bytes; have hr := B.returns; have hts := atoms_spec (ws := wsX9_isName) B.pre
  have hown : s.vm.findClass RX9 = some m.cls := findClass_of_methodNamed B.named
  have hlocks := B.notSynchronized
  have hS : va_S (zt_A G) s.heap s.heap [] := va_S.rf
  have hl := lv_entry ([.int x0]) (n := 3) (Nat.le_of_ble_eq_true rfl)
  rw [lg_entry_eq]
  generalize (lg_sl ([.int x0]) ++ List.replicate (3 - (lg_sl ([.int x0])).length) Slot.unset).toArray = ls at hl ⊢
  have hl : lv_has ls 3 [(0, .int x0)] := hl
  show W p l e (zt_R 1 22) s m ([.int x0] : List Value).toArray below meth c s.heap [] 0 0 (MQ below (zt_Ci G r σ) ([.int x0] : List Value).toArray s 0 0 (zt_A G)) (F0 m 0 ls [])
  have B31 : ∀ (rc11 : Int32 → Int32 → Option (Int32)) (hrc11 : ∀ (u1 : Int32) (u2 : Int32) (H : Heap) (locs : List Loc) (ls : Array Slot), rc11 u1 u2 = some r → va_P (zt_D G) vwCl (zt_ww G σ) H → va_S (zt_A G) s.heap H locs → lv_has ls 3 [(1, .int u1), (2, .int u2)] → W p l e (zt_R 1 22) s m ([.int x0] : List Value).toArray below meth c H locs 0 0 (MQ below (zt_Ci G r σ) ([.int x0] : List Value).toArray s 0 0 (zt_A G)) (F0 m 11 ls [])), ∀ (y0 : Int32) (u2 : Int32) (H : Heap) (locs : List Loc) (ls : Array Slot), f_X9_isName_31 rc11 y0 u2 = some r → va_P (zt_D G) vwCl (zt_ww G σ) H → va_S (zt_A G) s.heap H locs → lv_has ls 3 [(2, .int u2)] → W p l e (zt_R 1 22) s m ([.int x0] : List Value).toArray below meth c H locs 0 0 (MQ below (zt_Ci G r σ) ([.int x0] : List Value).toArray s 0 0 (zt_A G)) (F0 m 31 ls [.int y0]) := by
    intro rc11 hrc11 y0 u2 H locs ls hf hP hS hl
    unfold f_X9_isName_31 at hf
    refine lv_istore_n (lv' := [(1, .int y0), (2, .int u2)]) hx hb dX9_isName_31 rfl hl (by decide) rfl (fun ls hl => ?_)
    refine lv_iload_n hx hb dX9_isName_32 rfl (lv_at hl 1 rfl) ?_
    refine lv_bipush (v := 10) hx hb dX9_isName_33 (by decide +kernel) ?_
    refine lv_idiv hx hb dX9_isName_35 (by decide) ?_
    refine lv_istore_n (lv' := [(2, .int (u2 / 10)), (1, .int y0)]) hx hb dX9_isName_36 rfl hl (by decide) rfl (fun ls hl => ?_)
    refine lv_goto (tgt := 11) hx hb dX9_isName_37 (by decide) ?_
    exact hrc11 y0 (u2 / 10) _ _ _ hf hP hS (lv_sub hl [1, 0] rfl)
  have B11 : ∀ (n : Nat), ∀ (u1 : Int32) (u2 : Int32) (H : Heap) (locs : List Loc) (ls : Array Slot), f_X9_isName_11 n u1 u2 = some r → va_P (zt_D G) vwCl (zt_ww G σ) H → va_S (zt_A G) s.heap H locs → lv_has ls 3 [(1, .int u1), (2, .int u2)] → W p l e (zt_R 1 22) s m ([.int x0] : List Value).toArray below meth c H locs 0 0 (MQ below (zt_Ci G r σ) ([.int x0] : List Value).toArray s 0 0 (zt_A G)) (F0 m 11 ls []) := by
    intro n
    induction n with
    | zero => intro u1 u2 H locs ls hf; exact nomatch hf
    | succ n hrc11 =>
      intro u1 u2 H locs ls hf hP hS hl
      generalize hrcg : f_X9_isName_11 n = rc11 at hrc11
      have hf : f_X9_isName_11b rc11 u1 u2 = some r := by rw [← hrcg]; exact hf
      unfold f_X9_isName_11b at hf
      refine lv_iload_n hx hb dX9_isName_11 rfl (lv_at hl 1 rfl) ?_
      refine lv_if_le (tgt := 40) hx hb dX9_isName_12 (by decide) (fun c3 => ?_) (fun c3 => ?_)
      · have hf := (if_pos c3).symm.trans hf
        refine lv_iload_n hx hb dX9_isName_40 rfl (lv_at hl 0 rfl) ?_
        obtain ⟨g4, hf⟩ := zt_gd_some hf
        exact W.zret hx hb hr (zt_bn g4).1 (fun t ht hW => ⟨⟨_, _, rfl, ⟨Option.some.inj hf, rfl⟩, zt_go hE hP hS zt_id ht hW⟩, hS.F ht⟩) hS.2.2 dX9_isName_41
      · have hf := (if_neg c3).symm.trans hf
        refine lv_iload_n hx hb dX9_isName_15 rfl (lv_at hl 0 rfl) ?_
        refine lv_if_eq (tgt := 40) hx hb dX9_isName_16 (by decide) (fun c5 => ?_) (fun c5 => ?_)
        · have hf := (if_pos c5).symm.trans hf
          refine lv_iload_n hx hb dX9_isName_40 rfl (lv_at hl 0 rfl) ?_
          obtain ⟨g6, hf⟩ := zt_gd_some hf
          exact W.zret hx hb hr (zt_bn g6).1 (fun t ht hW => ⟨⟨_, _, rfl, ⟨Option.some.inj hf, rfl⟩, zt_go hE hP hS zt_id ht hW⟩, hS.F ht⟩) hS.2.2 dX9_isName_41
        · have hf := (if_neg c5).symm.trans hf
          refine lv_iload_n hx hb dX9_isName_19 rfl (lv_at hl 1 rfl) ?_
          refine lv_bipush (v := 10) hx hb dX9_isName_20 (by decide +kernel) ?_
          refine lv_irem hx hb dX9_isName_22 (by decide) ?_
          refine lv_if_le (tgt := 30) hx hb dX9_isName_23 (by decide) (fun c7 => ?_) (fun c7 => ?_)
          · have hf := (if_pos c7).symm.trans hf
            refine lv_iconst (v := 0) hx hb dX9_isName_30 (by decide) ?_
            exact B31 rc11 hrc11 0 u2 _ _ _ hf hP hS (lv_sub hl [1] rfl)
          · have hf := (if_neg c7).symm.trans hf
            refine lv_iconst (v := 1) hx hb dX9_isName_26 (by decide) ?_
            refine lv_goto (tgt := 31) hx hb dX9_isName_27 (by decide) ?_
            exact B31 rc11 hrc11 1 u2 _ _ _ hf hP hS (lv_sub hl [1] rfl)
  unfold f_X9_isName at hf
  refine lv_iload_n hx hb dX9_isName_0 rfl (lv_at hl 0 rfl) ?_
  refine lv_iconst (v := 0) hx hb dX9_isName_1 (by decide) ?_
  refine lv_sipush (v := 9999) hx hb dX9_isName_2 (by decide +kernel) ?_
  obtain ⟨v1, hvv1, hf⟩ := zt_bd_some hf
  refine va_calli (va_runS (As := [.int x0, .int 0, .int 9999]) (rest := []) ⟨hx, hb, hml, hown, hts⟩ (m_X9_in l G (σ := σ) hvv1) (va_cwS 3 hts gX9_isName_X9_in rfl rfl rfl zh_X9_in ⟨Nat.le_of_ble_eq_true rfl, Nat.le_of_ble_eq_true rfl⟩) ⟨zt_blind, fun U hU hW => ⟨rfl, zt_go hE hP hS zt_id hU hW⟩⟩ rfl rfl hl.1 rfl (lv_room (Nat.le_of_ble_eq_true rfl)) dX9_isName_5 ⟨Nat.zero_le _, Nat.zero_le _⟩) hS (fun _ _ h => h) (fun _ h => h) (fun r u t H locs ht hvm hw hB _ _ hS => ?_)
  rw [hw.1]; have hB : zt_B G u t := hB; rw [hw.2] at hB; have hP := zt_B.P hB ht
  refine lv_istore_n (lv' := [(1, .int v1), (0, .int x0)]) hx hb dX9_isName_8 rfl hl (by decide) rfl (fun ls hl => ?_)
  refine lv_iload_n hx hb dX9_isName_9 rfl (lv_at hl 1 rfl) ?_
  refine lv_istore_n (lv' := [(2, .int x0), (1, .int v1), (0, .int x0)]) hx hb dX9_isName_10 rfl hl (by decide) rfl (fun ls hl => ?_)
  exact B11 zt_FU v1 x0 _ _ _ hf hP hS (lv_sub hl [1, 0] rfl)

theorem zh_X9_isStar : yX9_isStar.cls ≠ "java/lang/invoke/MethodHandle" ∧ yX9_isStar.cls ≠ "java/lang/invoke/VarHandle" ∧ (parseMethodDescriptor yX9_isStar.desc).map (fun d => d.parameters.length) = some 1 := by decide +kernel
set_option maxHeartbeats 4000000 in
set_option maxRecDepth 100000 in
theorem m_X9_isStar (l : Launch) (G : zt_G) {σ : zt_St} {x0 : Int32} {r : Int32} (hf : f_X9_isStar x0 = some r) : zt_Mi l G yX9_isStar wsX9_isStar 2 44 [.int x0] σ r σ := by
  refine Met.ofW (cc := cX9_isStar) (maxL := 1) (ret := (some .boolean)) (by decide) rfl ?_
  intro p e s m args below meth c s₁ B hml hv
  obtain ⟨rfl, hBB⟩ := hv
  have hE := zt_B.env hBB; have hK := hE.2.1; have hP := hBB.2.1
  have hx := B.exec; have hb := B.bytes; have hr := B.returns; have hts := atoms_spec (ws := wsX9_isStar) B.pre
  have hown : s.vm.findClass RX9 = some m.cls := findClass_of_methodNamed B.named
  have hlocks := B.notSynchronized
  have hS : va_S (zt_A G) s.heap s.heap [] := va_S.rf
  have hl := lv_entry ([.int x0]) (n := 1) (Nat.le_of_ble_eq_true rfl)
  rw [lg_entry_eq]
  generalize (lg_sl ([.int x0]) ++ List.replicate (1 - (lg_sl ([.int x0])).length) Slot.unset).toArray = ls at hl ⊢
  have hl : lv_has ls 1 [(0, .int x0)] := hl
  show W p l e (zt_R 2 44) s m ([.int x0] : List Value).toArray below meth c s.heap [] 0 0 (MQ below (zt_Ci G r σ) ([.int x0] : List Value).toArray s 0 0 (zt_A G)) (F0 m 0 ls [])
  unfold f_X9_isStar at hf
  refine lv_iload_n hx hb dX9_isStar_0 rfl (lv_at hl 0 rfl) ?_
  refine lv_if_le (tgt := 35) hx hb dX9_isStar_1 (by decide) (fun c1 => ?_) (fun c1 => ?_)
  · have hf := (if_pos c1).symm.trans hf
    refine lv_iconst (v := 0) hx hb dX9_isStar_35 (by decide) ?_
    exact W.zret hx hb hr (zt_bn (by decide)).1 (fun t ht hW => ⟨⟨_, _, rfl, ⟨Option.some.inj hf, rfl⟩, zt_go hE hP hS zt_id ht hW⟩, hS.F ht⟩) hS.2.2 dX9_isStar_36
  · have hf := (if_neg c1).symm.trans hf
    refine lv_iload_n hx hb dX9_isStar_4 rfl (lv_at hl 0 rfl) ?_
    refine lv_bipush (v := 10) hx hb dX9_isStar_5 (by decide +kernel) ?_
    refine lv_irem hx hb dX9_isStar_7 (by decide) ?_
    refine lv_if_ne (tgt := 35) hx hb dX9_isStar_8 (by decide) (fun c2 => ?_) (fun c2 => ?_)
    · have hf := (if_neg c2).symm.trans hf
      refine lv_iconst (v := 0) hx hb dX9_isStar_35 (by decide) ?_
      exact W.zret hx hb hr (zt_bn (by decide)).1 (fun t ht hW => ⟨⟨_, _, rfl, ⟨Option.some.inj hf, rfl⟩, zt_go hE hP hS zt_id ht hW⟩, hS.F ht⟩) hS.2.2 dX9_isStar_36
    · have hf := (if_pos c2).symm.trans hf
      refine lv_iload_n hx hb dX9_isStar_11 rfl (lv_at hl 0 rfl) ?_
      refine lv_bipush (v := 10) hx hb dX9_isStar_12 (by decide +kernel) ?_
      refine lv_idiv hx hb dX9_isStar_14 (by decide) ?_
      refine lv_sipush (v := 1000) hx hb dX9_isStar_15 (by decide +kernel) ?_
      refine lv_icmp_ge (tgt := 35) hx hb dX9_isStar_18 (by decide) (fun c3 => ?_) (fun c3 => ?_)
      · have hf := (if_pos c3).symm.trans hf
        refine lv_iconst (v := 0) hx hb dX9_isStar_35 (by decide) ?_
        exact W.zret hx hb hr (zt_bn (by decide)).1 (fun t ht hW => ⟨⟨_, _, rfl, ⟨Option.some.inj hf, rfl⟩, zt_go hE hP hS zt_id ht hW⟩, hS.F ht⟩) hS.2.2 dX9_isStar_36
      · have hf := (if_neg c3).symm.trans hf
        refine lv_iload_n hx hb dX9_isStar_21 rfl (lv_at hl 0 rfl) ?_
        refine lv_bipush (v := 10) hx hb dX9_isStar_22 (by decide +kernel) ?_
        refine lv_idiv hx hb dX9_isStar_24 (by decide) ?_
        obtain ⟨v4, hvv4, hf⟩ := zt_bd_some hf
        refine va_calli (va_runS (As := [.int (x0 / 10)]) (rest := []) ⟨hx, hb, hml, hown, hts⟩ (m_X9_isName l G (σ := σ) hvv4) (va_cwS 1 hts gX9_isStar_X9_isName rfl rfl rfl zh_X9_isName ⟨Nat.le_of_ble_eq_true rfl, Nat.le_of_ble_eq_true rfl⟩) ⟨zt_blind, fun U hU hW => ⟨rfl, zt_go hE hP hS zt_id hU hW⟩⟩ rfl rfl hl.1 rfl (lv_room (Nat.le_of_ble_eq_true rfl)) dX9_isStar_25 ⟨Nat.zero_le _, Nat.zero_le _⟩) hS (fun _ _ h => h) (fun _ h => h) (fun r u t H locs ht hvm hw hB _ _ hS => ?_)
        rw [hw.1]; have hB : zt_B G u t := hB; rw [hw.2] at hB; have hP := zt_B.P hB ht
        refine lv_if_eq (tgt := 35) hx hb dX9_isStar_28 (by decide) (fun c6 => ?_) (fun c6 => ?_)
        · have hf := (if_pos c6).symm.trans hf
          refine lv_iconst (v := 0) hx hb dX9_isStar_35 (by decide) ?_
          exact W.zret hx hb hr (zt_bn (by decide)).1 (fun t ht hW => ⟨⟨_, _, rfl, ⟨Option.some.inj hf, rfl⟩, zt_go hE hP hS zt_id ht hW⟩, hS.F ht⟩) hS.2.2 dX9_isStar_36
        · have hf := (if_neg c6).symm.trans hf
          refine lv_iconst (v := 1) hx hb dX9_isStar_31 (by decide) ?_
          refine lv_goto (tgt := 36) hx hb dX9_isStar_32 (by decide) ?_
          exact W.zret hx hb hr (zt_bn (by decide)).1 (fun t ht hW => ⟨⟨_, _, rfl, ⟨Option.some.inj hf, rfl⟩, zt_go hE hP hS zt_id ht hW⟩, hS.F ht⟩) hS.2.2 dX9_isStar_36

theorem zh_X9_isPlace : yX9_isPlace.cls ≠ "java/lang/invoke/MethodHandle" ∧ yX9_isPlace.cls ≠ "java/lang/invoke/VarHandle" ∧ (parseMethodDescriptor yX9_isPlace.desc).map (fun d => d.parameters.length) = some 1 := by decide +kernel
set_option maxHeartbeats 4000000 in
set_option maxRecDepth 100000 in
theorem m_X9_isPlace (l : Launch) (G : zt_G) {σ : zt_St} {x0 : Int32} {r : Int32} (hf : f_X9_isPlace x0 = some r) : zt_Mi l G yX9_isPlace wsX9_isPlace 3 64 [.int x0] σ r σ := by
  refine Met.ofW (cc := cX9_isPlace) (maxL := 1) (ret := (some .boolean)) (by decide) rfl ?_
  intro p e s m args below meth c s₁ B hml hv
  obtain ⟨rfl, hBB⟩ := hv
  have hE := zt_B.env hBB; have hK := hE.2.1; have hP := hBB.2.1
  have hx := B.exec; have hb := B.bytes; have hr := B.returns; have hts := atoms_spec (ws := wsX9_isPlace) B.pre
  have hown : s.vm.findClass RX9 = some m.cls := findClass_of_methodNamed B.named
  have hlocks := B.notSynchronized
  have hS : va_S (zt_A G) s.heap s.heap [] := va_S.rf
  have hl := lv_entry ([.int x0]) (n := 1) (Nat.le_of_ble_eq_true rfl)
  rw [lg_entry_eq]
  generalize (lg_sl ([.int x0]) ++ List.replicate (1 - (lg_sl ([.int x0])).length) Slot.unset).toArray = ls at hl ⊢
  have hl : lv_has ls 1 [(0, .int x0)] := hl
  show W p l e (zt_R 3 64) s m ([.int x0] : List Value).toArray below meth c s.heap [] 0 0 (MQ below (zt_Ci G r σ) ([.int x0] : List Value).toArray s 0 0 (zt_A G)) (F0 m 0 ls [])
  have B14 : ∀ (H : Heap) (locs : List Loc) (ls : Array Slot), f_X9_isPlace_14 = some r → va_P (zt_D G) vwCl (zt_ww G σ) H → va_S (zt_A G) s.heap H locs → lv_has ls 1 [] → W p l e (zt_R 3 64) s m ([.int x0] : List Value).toArray below meth c H locs 0 0 (MQ below (zt_Ci G r σ) ([.int x0] : List Value).toArray s 0 0 (zt_A G)) (F0 m 14 ls []) := by
    intro H locs ls hf hP hS hl
    unfold f_X9_isPlace_14 at hf
    refine lv_iconst (v := 1) hx hb dX9_isPlace_14 (by decide) ?_
    refine lv_goto (tgt := 19) hx hb dX9_isPlace_15 (by decide) ?_
    exact W.zret hx hb hr (zt_bn (by decide)).1 (fun t ht hW => ⟨⟨_, _, rfl, ⟨Option.some.inj hf, rfl⟩, zt_go hE hP hS zt_id ht hW⟩, hS.F ht⟩) hS.2.2 dX9_isPlace_19
  unfold f_X9_isPlace at hf
  refine lv_iload_n hx hb dX9_isPlace_0 rfl (lv_at hl 0 rfl) ?_
  obtain ⟨v1, hvv1, hf⟩ := zt_bd_some hf
  refine va_calli (va_runS (As := [.int x0]) (rest := []) ⟨hx, hb, hml, hown, hts⟩ (m_X9_isName l G (σ := σ) hvv1) (va_cwS 1 hts gX9_isPlace_X9_isName rfl rfl rfl zh_X9_isName ⟨Nat.le_of_ble_eq_true rfl, Nat.le_of_ble_eq_true rfl⟩) ⟨zt_blind, fun U hU hW => ⟨rfl, zt_go hE hP hS zt_id hU hW⟩⟩ rfl rfl hl.1 rfl (lv_room (Nat.le_of_ble_eq_true rfl)) dX9_isPlace_1 ⟨Nat.zero_le _, Nat.zero_le _⟩) hS (fun _ _ h => h) (fun _ h => h) (fun r u t H locs ht hvm hw hB _ _ hS => ?_)
  rw [hw.1]; have hB : zt_B G u t := hB; rw [hw.2] at hB; have hP := zt_B.P hB ht
  refine lv_if_ne (tgt := 14) hx hb dX9_isPlace_4 (by decide) (fun c3 => ?_) (fun c3 => ?_)
  · have hf := (if_neg c3).symm.trans hf
    exact B14 _ _ _ hf hP hS (lv_sub hl [] rfl)
  · have hf := (if_pos c3).symm.trans hf
    refine lv_iload_n hx hb dX9_isPlace_7 rfl (lv_at hl 0 rfl) ?_
    obtain ⟨v4, hvv4, hf⟩ := zt_bd_some hf
    refine va_calli (va_runS (As := [.int x0]) (rest := []) ⟨hx, hb, hml, hown, hts⟩ (m_X9_isStar l G (σ := σ) hvv4) (va_cwS 1 hts gX9_isPlace_X9_isStar rfl rfl rfl zh_X9_isStar ⟨Nat.le_of_ble_eq_true rfl, Nat.le_of_ble_eq_true rfl⟩) ⟨zt_blind, fun U hU hW => ⟨rfl, zt_go hE hP hS zt_id hU hW⟩⟩ rfl rfl hl.1 rfl (lv_room (Nat.le_of_ble_eq_true rfl)) dX9_isPlace_8 ⟨Nat.zero_le _, Nat.zero_le _⟩) hS (fun _ _ h => h) (fun _ h => h) (fun r u t H locs ht hvm hw hB _ _ hS => ?_)
    rw [hw.1]; have hB : zt_B G u t := hB; rw [hw.2] at hB; have hP := zt_B.P hB ht
    refine lv_if_eq (tgt := 18) hx hb dX9_isPlace_11 (by decide) (fun c6 => ?_) (fun c6 => ?_)
    · have hf := (if_pos c6).symm.trans hf
      refine lv_iconst (v := 0) hx hb dX9_isPlace_18 (by decide) ?_
      exact W.zret hx hb hr (zt_bn (by decide)).1 (fun t ht hW => ⟨⟨_, _, rfl, ⟨Option.some.inj hf, rfl⟩, zt_go hE hP hS zt_id ht hW⟩, hS.F ht⟩) hS.2.2 dX9_isPlace_19
    · have hf := (if_neg c6).symm.trans hf
      exact B14 _ _ _ hf hP hS (lv_sub hl [] rfl)

theorem zh_X9_base : yX9_base.cls ≠ "java/lang/invoke/MethodHandle" ∧ yX9_base.cls ≠ "java/lang/invoke/VarHandle" ∧ (parseMethodDescriptor yX9_base.desc).map (fun d => d.parameters.length) = some 1 := by decide +kernel
set_option maxHeartbeats 4000000 in
set_option maxRecDepth 100000 in
theorem m_X9_base (l : Launch) (G : zt_G) {σ : zt_St} {x0 : Int32} {r : Int32} (hf : f_X9_base x0 = some r) : zt_Mi l G yX9_base wsX9_base 0 0 [.int x0] σ r σ := by
  refine Met.ofW (cc := cX9_base) (maxL := 1) (ret := (some .int)) (by decide) rfl ?_
  intro p e s m args below meth c s₁ B hml hv
  obtain ⟨rfl, hBB⟩ := hv
  have hE := zt_B.env hBB; have hK := hE.2.1; have hP := hBB.2.1
  have hx := B.exec; have hb := B.bytes; have hr := B.returns; have hts := atoms_spec (ws := wsX9_base) B.pre
  have hown : s.vm.findClass RX9 = some m.cls := findClass_of_methodNamed B.named
  have hlocks := B.notSynchronized
  have hS : va_S (zt_A G) s.heap s.heap [] := va_S.rf
  have hl := lv_entry ([.int x0]) (n := 1) (Nat.le_of_ble_eq_true rfl)
  rw [lg_entry_eq]
  generalize (lg_sl ([.int x0]) ++ List.replicate (1 - (lg_sl ([.int x0])).length) Slot.unset).toArray = ls at hl ⊢
  have hl : lv_has ls 1 [(0, .int x0)] := hl
  show W p l e (zt_R 0 0) s m ([.int x0] : List Value).toArray below meth c s.heap [] 0 0 (MQ below (zt_Ci G r σ) ([.int x0] : List Value).toArray s 0 0 (zt_A G)) (F0 m 0 ls [])
  unfold f_X9_base at hf
  refine lv_iload_n hx hb dX9_base_0 rfl (lv_at hl 0 rfl) ?_
  refine lv_if_le (tgt := 18) hx hb dX9_base_1 (by decide) (fun c1 => ?_) (fun c1 => ?_)
  · have hf := (if_pos c1).symm.trans hf
    refine lv_iload_n hx hb dX9_base_18 rfl (lv_at hl 0 rfl) ?_
    exact W.iret hx hb hr (fun t ht hW => ⟨⟨_, _, rfl, ⟨Option.some.inj hf, rfl⟩, zt_go hE hP hS zt_id ht hW⟩, hS.F ht⟩) hS.2.2 dX9_base_19
  · have hf := (if_neg c1).symm.trans hf
    refine lv_iload_n hx hb dX9_base_4 rfl (lv_at hl 0 rfl) ?_
    refine lv_bipush (v := 10) hx hb dX9_base_5 (by decide +kernel) ?_
    refine lv_irem hx hb dX9_base_7 (by decide) ?_
    refine lv_if_ne (tgt := 18) hx hb dX9_base_8 (by decide) (fun c2 => ?_) (fun c2 => ?_)
    · have hf := (if_neg c2).symm.trans hf
      refine lv_iload_n hx hb dX9_base_18 rfl (lv_at hl 0 rfl) ?_
      exact W.iret hx hb hr (fun t ht hW => ⟨⟨_, _, rfl, ⟨Option.some.inj hf, rfl⟩, zt_go hE hP hS zt_id ht hW⟩, hS.F ht⟩) hS.2.2 dX9_base_19
    · have hf := (if_pos c2).symm.trans hf
      refine lv_iload_n hx hb dX9_base_11 rfl (lv_at hl 0 rfl) ?_
      refine lv_bipush (v := 10) hx hb dX9_base_12 (by decide +kernel) ?_
      refine lv_idiv hx hb dX9_base_14 (by decide) ?_
      refine lv_goto (tgt := 19) hx hb dX9_base_15 (by decide) ?_
      exact W.iret hx hb hr (fun t ht hW => ⟨⟨_, _, rfl, ⟨Option.some.inj hf, rfl⟩, zt_go hE hP hS zt_id ht hW⟩, hS.F ht⟩) hS.2.2 dX9_base_19

theorem zh_X9_ten : yX9_ten.cls ≠ "java/lang/invoke/MethodHandle" ∧ yX9_ten.cls ≠ "java/lang/invoke/VarHandle" ∧ (parseMethodDescriptor yX9_ten.desc).map (fun d => d.parameters.length) = some 1 := by decide +kernel
set_option maxHeartbeats 4000000 in
set_option maxRecDepth 100000 in
theorem m_X9_ten (l : Launch) (G : zt_G) {σ : zt_St} {x0 : Int32} {r : Int32} (hf : f_X9_ten x0 = some r) : zt_Mi l G yX9_ten wsX9_ten 0 0 [.int x0] σ r σ := by
  refine Met.ofW (cc := cX9_ten) (maxL := 3) (ret := (some .int)) (by decide) rfl ?_
  intro p e s m args below meth c s₁ B hml hv
  obtain ⟨rfl, hBB⟩ := hv
  have hE := zt_B.env hBB; have hK := hE.2.1; have hP := hBB.2.1
  have hx := B.exec; have hb := B.bytes; have hr := B.returns; have hts := atoms_spec (ws := wsX9_ten) B.pre
  have hown : s.vm.findClass RX9 = some m.cls := findClass_of_methodNamed B.named
  have hlocks := B.notSynchronized
  have hS : va_S (zt_A G) s.heap s.heap [] := va_S.rf
  have hl := lv_entry ([.int x0]) (n := 3) (Nat.le_of_ble_eq_true rfl)
  rw [lg_entry_eq]
  generalize (lg_sl ([.int x0]) ++ List.replicate (3 - (lg_sl ([.int x0])).length) Slot.unset).toArray = ls at hl ⊢
  have hl : lv_has ls 3 [(0, .int x0)] := hl
  show W p l e (zt_R 0 0) s m ([.int x0] : List Value).toArray below meth c s.heap [] 0 0 (MQ below (zt_Ci G r σ) ([.int x0] : List Value).toArray s 0 0 (zt_A G)) (F0 m 0 ls [])
  have B4 : ∀ (n : Nat), ∀ (u0 : Int32) (u1 : Int32) (u2 : Int32) (H : Heap) (locs : List Loc) (ls : Array Slot), f_X9_ten_4 n u0 u1 u2 = some r → va_P (zt_D G) vwCl (zt_ww G σ) H → va_S (zt_A G) s.heap H locs → lv_has ls 3 [(0, .int u0), (1, .int u1), (2, .int u2)] → W p l e (zt_R 0 0) s m ([.int x0] : List Value).toArray below meth c H locs 0 0 (MQ below (zt_Ci G r σ) ([.int x0] : List Value).toArray s 0 0 (zt_A G)) (F0 m 4 ls []) := by
    intro n
    induction n with
    | zero => intro u0 u1 u2 H locs ls hf; exact nomatch hf
    | succ n hrc4 =>
      intro u0 u1 u2 H locs ls hf hP hS hl
      generalize hrcg : f_X9_ten_4 n = rc4 at hrc4
      have hf : f_X9_ten_4b rc4 u0 u1 u2 = some r := by rw [← hrcg]; exact hf
      unfold f_X9_ten_4b at hf
      refine lv_iload_n hx hb dX9_ten_4 rfl (lv_at hl 2 rfl) ?_
      refine lv_iload_n hx hb dX9_ten_5 rfl (lv_at hl 0 rfl) ?_
      refine lv_icmp_ge (tgt := 20) hx hb dX9_ten_6 (by decide) (fun c1 => ?_) (fun c1 => ?_)
      · have hf := (if_pos c1).symm.trans hf
        refine lv_iload_n hx hb dX9_ten_20 rfl (lv_at hl 1 rfl) ?_
        exact W.iret hx hb hr (fun t ht hW => ⟨⟨_, _, rfl, ⟨Option.some.inj hf, rfl⟩, zt_go hE hP hS zt_id ht hW⟩, hS.F ht⟩) hS.2.2 dX9_ten_21
      · have hf := (if_neg c1).symm.trans hf
        refine lv_iload_n hx hb dX9_ten_9 rfl (lv_at hl 1 rfl) ?_
        refine lv_bipush (v := 10) hx hb dX9_ten_10 (by decide +kernel) ?_
        refine lv_imul hx hb dX9_ten_12 ?_
        refine lv_istore_n (lv' := [(1, .int (u1 * 10)), (0, .int u0), (2, .int u2)]) hx hb dX9_ten_13 rfl hl (by decide) rfl (fun ls hl => ?_)
        refine lv_iinc (v := (u2 + 1)) (lv' := [(2, .int (u2 + 1)), (1, .int (u1 * 10)), (0, .int u0)]) hx hb dX9_ten_14 hl (k := 2) rfl rfl (by decide) rfl (fun ls hl => ?_)
        refine lv_goto (tgt := 4) hx hb dX9_ten_17 (by decide) ?_
        exact hrc4 u0 (u1 * 10) (u2 + 1) _ _ _ hf hP hS (lv_sub hl [2, 1, 0] rfl)
  unfold f_X9_ten at hf
  refine lv_iconst (v := 1) hx hb dX9_ten_0 (by decide) ?_
  refine lv_istore_n (lv' := [(1, .int 1), (0, .int x0)]) hx hb dX9_ten_1 rfl hl (by decide) rfl (fun ls hl => ?_)
  refine lv_iconst (v := 0) hx hb dX9_ten_2 (by decide) ?_
  refine lv_istore_n (lv' := [(2, .int 0), (1, .int 1), (0, .int x0)]) hx hb dX9_ten_3 rfl hl (by decide) rfl (fun ls hl => ?_)
  exact B4 zt_FU x0 1 0 _ _ _ hf hP hS (lv_sub hl [2, 1, 0] rfl)

theorem zh_X9_head : yX9_head.cls ≠ "java/lang/invoke/MethodHandle" ∧ yX9_head.cls ≠ "java/lang/invoke/VarHandle" ∧ (parseMethodDescriptor yX9_head.desc).map (fun d => d.parameters.length) = some 2 := by decide +kernel
set_option maxHeartbeats 4000000 in
set_option maxRecDepth 100000 in
theorem m_X9_head (l : Launch) (G : zt_G) {σ : zt_St} {x0 : Int32} {x1 : Int32} {r : Int32} (hf : f_X9_head x0 x1 = some r) : zt_Mi l G yX9_head wsX9_head 1 22 [.int x0, .int x1] σ r σ := by
  refine Met.ofW (cc := cX9_head) (maxL := 2) (ret := (some .int)) (by decide) rfl ?_
  intro p e s m args below meth c s₁ B hml hv
  obtain ⟨rfl, hBB⟩ := hv
  have hE := zt_B.env hBB; have hK := hE.2.1; have hP := hBB.2.1
  have hx := B.exec; have hb := B.bytes; have hr := B.returns; have hts := atoms_spec (ws := wsX9_head) B.pre
  have hown : s.vm.findClass RX9 = some m.cls := findClass_of_methodNamed B.named
  have hlocks := B.notSynchronized
  have hS : va_S (zt_A G) s.heap s.heap [] := va_S.rf
  have hl := lv_entry ([.int x0, .int x1]) (n := 2) (Nat.le_of_ble_eq_true rfl)
  rw [lg_entry_eq]
  generalize (lg_sl ([.int x0, .int x1]) ++ List.replicate (2 - (lg_sl ([.int x0, .int x1])).length) Slot.unset).toArray = ls at hl ⊢
  have hl : lv_has ls 2 [(0, .int x0), (1, .int x1)] := hl
  show W p l e (zt_R 1 22) s m ([.int x0, .int x1] : List Value).toArray below meth c s.heap [] 0 0 (MQ below (zt_Ci G r σ) ([.int x0, .int x1] : List Value).toArray s 0 0 (zt_A G)) (F0 m 0 ls [])
  unfold f_X9_head at hf
  refine lv_iload_n hx hb dX9_head_0 rfl (lv_at hl 0 rfl) ?_
  refine lv_iload_n hx hb dX9_head_1 rfl (lv_at hl 0 rfl) ?_
  obtain ⟨v1, hvv1, hf⟩ := zt_bd_some hf
  refine va_calli (va_runS (As := [.int x0]) (rest := [.int x0]) ⟨hx, hb, hml, hown, hts⟩ (m_X9_figures l G (σ := σ) hvv1) (va_cwS 1 hts gX9_head_X9_figures rfl rfl rfl zh_X9_figures ⟨Nat.le_of_ble_eq_true rfl, Nat.le_of_ble_eq_true rfl⟩) ⟨zt_blind, fun U hU hW => ⟨rfl, zt_go hE hP hS zt_id hU hW⟩⟩ rfl rfl hl.1 rfl (lv_room (Nat.le_of_ble_eq_true rfl)) dX9_head_2 ⟨Nat.zero_le _, Nat.zero_le _⟩) hS (fun _ _ h => h) (fun _ h => h) (fun r u t H locs ht hvm hw hB _ _ hS => ?_)
  rw [hw.1]; have hB : zt_B G u t := hB; rw [hw.2] at hB; have hP := zt_B.P hB ht
  refine lv_iload_n hx hb dX9_head_5 rfl (lv_at hl 1 rfl) ?_
  refine lv_isub hx hb dX9_head_6 ?_
  obtain ⟨v3, hvv3, hf⟩ := zt_bd_some hf
  refine va_calli (va_runS (As := [.int (v1 - x1)]) (rest := [.int x0]) ⟨hx, hb, hml, hown, hts⟩ (m_X9_ten l G (σ := σ) hvv3) (va_cwS 1 hts gX9_head_X9_ten rfl rfl rfl zh_X9_ten ⟨Nat.le_of_ble_eq_true rfl, Nat.le_of_ble_eq_true rfl⟩) ⟨zt_blind, fun U hU hW => ⟨rfl, zt_go hE hP hS zt_id hU hW⟩⟩ rfl rfl hl.1 rfl (lv_room (Nat.le_of_ble_eq_true rfl)) dX9_head_7 ⟨Nat.zero_le _, Nat.zero_le _⟩) hS (fun _ _ h => h) (fun _ h => h) (fun r u t H locs ht hvm hw hB _ _ hS => ?_)
  rw [hw.1]; have hB : zt_B G u t := hB; rw [hw.2] at hB; have hP := zt_B.P hB ht
  obtain ⟨g5, hf⟩ := zt_gd_some hf
  refine lv_idiv hx hb dX9_head_10 (zt_nz0 g5) ?_
  exact W.iret hx hb hr (fun t ht hW => ⟨⟨_, _, rfl, ⟨Option.some.inj hf, rfl⟩, zt_go hE hP hS zt_id ht hW⟩, hS.F ht⟩) hS.2.2 dX9_head_11

theorem zh_X9_isUnder : yX9_isUnder.cls ≠ "java/lang/invoke/MethodHandle" ∧ yX9_isUnder.cls ≠ "java/lang/invoke/VarHandle" ∧ (parseMethodDescriptor yX9_isUnder.desc).map (fun d => d.parameters.length) = some 2 := by decide +kernel
set_option maxHeartbeats 4000000 in
set_option maxRecDepth 100000 in
theorem m_X9_isUnder (l : Launch) (G : zt_G) {σ : zt_St} {x0 : Int32} {x1 : Int32} {r : Int32} (hf : f_X9_isUnder x0 x1 = some r) : zt_Mi l G yX9_isUnder wsX9_isUnder 2 43 [.int x0, .int x1] σ r σ := by
  refine Met.ofW (cc := cX9_isUnder) (maxL := 3) (ret := (some .boolean)) (by decide) rfl ?_
  intro p e s m args below meth c s₁ B hml hv
  obtain ⟨rfl, hBB⟩ := hv
  have hE := zt_B.env hBB; have hK := hE.2.1; have hP := hBB.2.1
  have hx := B.exec; have hb := B.bytes; have hr := B.returns; have hts := atoms_spec (ws := wsX9_isUnder) B.pre
  have hown : s.vm.findClass RX9 = some m.cls := findClass_of_methodNamed B.named
  have hlocks := B.notSynchronized
  have hS : va_S (zt_A G) s.heap s.heap [] := va_S.rf
  have hl := lv_entry ([.int x0, .int x1]) (n := 3) (Nat.le_of_ble_eq_true rfl)
  rw [lg_entry_eq]
  generalize (lg_sl ([.int x0, .int x1]) ++ List.replicate (3 - (lg_sl ([.int x0, .int x1])).length) Slot.unset).toArray = ls at hl ⊢
  have hl : lv_has ls 3 [(0, .int x0), (1, .int x1)] := hl
  show W p l e (zt_R 2 43) s m ([.int x0, .int x1] : List Value).toArray below meth c s.heap [] 0 0 (MQ below (zt_Ci G r σ) ([.int x0, .int x1] : List Value).toArray s 0 0 (zt_A G)) (F0 m 0 ls [])
  unfold f_X9_isUnder at hf
  refine lv_iload_n hx hb dX9_isUnder_0 rfl (lv_at hl 1 rfl) ?_
  obtain ⟨v1, hvv1, hf⟩ := zt_bd_some hf
  refine va_calli (va_runS (As := [.int x1]) (rest := []) ⟨hx, hb, hml, hown, hts⟩ (m_X9_figures l G (σ := σ) hvv1) (va_cwS 1 hts gX9_isUnder_X9_figures rfl rfl rfl zh_X9_figures ⟨Nat.le_of_ble_eq_true rfl, Nat.le_of_ble_eq_true rfl⟩) ⟨zt_blind, fun U hU hW => ⟨rfl, zt_go hE hP hS zt_id hU hW⟩⟩ rfl rfl hl.1 rfl (lv_room (Nat.le_of_ble_eq_true rfl)) dX9_isUnder_1 ⟨Nat.zero_le _, Nat.zero_le _⟩) hS (fun _ _ h => h) (fun _ h => h) (fun r u t H locs ht hvm hw hB _ _ hS => ?_)
  rw [hw.1]; have hB : zt_B G u t := hB; rw [hw.2] at hB; have hP := zt_B.P hB ht
  refine lv_istore_n (lv' := [(2, .int v1), (0, .int x0), (1, .int x1)]) hx hb dX9_isUnder_4 rfl hl (by decide) rfl (fun ls hl => ?_)
  refine lv_iload_n hx hb dX9_isUnder_5 rfl (lv_at hl 1 rfl) ?_
  obtain ⟨v3, hvv3, hf⟩ := zt_bd_some hf
  refine va_calli (va_runS (As := [.int x0]) (rest := []) ⟨hx, hb, hml, hown, hts⟩ (m_X9_figures l G (σ := σ) hvv3) (va_cwS 1 hts gX9_isUnder_X9_figures rfl rfl rfl zh_X9_figures ⟨Nat.le_of_ble_eq_true rfl, Nat.le_of_ble_eq_true rfl⟩) ⟨zt_blind, fun U hU hW => ⟨rfl, zt_go hE hP hS zt_id hU hW⟩⟩ rfl rfl hl.1 rfl (lv_room (Nat.le_of_ble_eq_true rfl)) dX9_isUnder_6 ⟨Nat.zero_le _, Nat.zero_le _⟩) hS (fun _ _ h => h) (fun _ h => h) (fun r u t H locs ht hvm hw hB _ _ hS => ?_)
  rw [hw.1]; have hB : zt_B G u t := hB; rw [hw.2] at hB; have hP := zt_B.P hB ht
  refine lv_iload_n hx hb dX9_isUnder_9 rfl (lv_at hl 0 rfl) ?_
  refine lv_icmp_lt (tgt := 26) hx hb dX9_isUnder_10 (by decide) (fun c5 => ?_) (fun c5 => ?_)
  · have hf := (if_pos c5).symm.trans hf
    refine lv_iconst (v := 0) hx hb dX9_isUnder_26 (by decide) ?_
    exact W.zret hx hb hr (zt_bn (by decide)).1 (fun t ht hW => ⟨⟨_, _, rfl, ⟨Option.some.inj hf, rfl⟩, zt_go hE hP hS zt_id ht hW⟩, hS.F ht⟩) hS.2.2 dX9_isUnder_27
  · have hf := (if_neg c5).symm.trans hf
    refine lv_iload_n hx hb dX9_isUnder_13 rfl (lv_at hl 1 rfl) ?_
    refine lv_iload_n hx hb dX9_isUnder_14 rfl (lv_at hl 0 rfl) ?_
    obtain ⟨v6, hvv6, hf⟩ := zt_bd_some hf
    refine va_calli (va_runS (As := [.int x0, .int v1]) (rest := []) ⟨hx, hb, hml, hown, hts⟩ (m_X9_head l G (σ := σ) hvv6) (va_cwS 2 hts gX9_isUnder_X9_head rfl rfl rfl zh_X9_head ⟨Nat.le_of_ble_eq_true rfl, Nat.le_of_ble_eq_true rfl⟩) ⟨zt_blind, fun U hU hW => ⟨rfl, zt_go hE hP hS zt_id hU hW⟩⟩ rfl rfl hl.1 rfl (lv_room (Nat.le_of_ble_eq_true rfl)) dX9_isUnder_15 ⟨Nat.zero_le _, Nat.zero_le _⟩) hS (fun _ _ h => h) (fun _ h => h) (fun r u t H locs ht hvm hw hB _ _ hS => ?_)
    rw [hw.1]; have hB : zt_B G u t := hB; rw [hw.2] at hB; have hP := zt_B.P hB ht
    refine lv_iload_n hx hb dX9_isUnder_18 rfl (lv_at hl 2 rfl) ?_
    refine lv_icmp_ne (tgt := 26) hx hb dX9_isUnder_19 (by decide) (fun c8 => ?_) (fun c8 => ?_)
    · have hf := (if_neg c8).symm.trans hf
      refine lv_iconst (v := 0) hx hb dX9_isUnder_26 (by decide) ?_
      exact W.zret hx hb hr (zt_bn (by decide)).1 (fun t ht hW => ⟨⟨_, _, rfl, ⟨Option.some.inj hf, rfl⟩, zt_go hE hP hS zt_id ht hW⟩, hS.F ht⟩) hS.2.2 dX9_isUnder_27
    · have hf := (if_pos c8).symm.trans hf
      refine lv_iconst (v := 1) hx hb dX9_isUnder_22 (by decide) ?_
      refine lv_goto (tgt := 27) hx hb dX9_isUnder_23 (by decide) ?_
      exact W.zret hx hb hr (zt_bn (by decide)).1 (fun t ht hW => ⟨⟨_, _, rfl, ⟨Option.some.inj hf, rfl⟩, zt_go hE hP hS zt_id ht hW⟩, hS.F ht⟩) hS.2.2 dX9_isUnder_27

theorem zh_X9_isStrictly : yX9_isStrictly.cls ≠ "java/lang/invoke/MethodHandle" ∧ yX9_isStrictly.cls ≠ "java/lang/invoke/VarHandle" ∧ (parseMethodDescriptor yX9_isStrictly.desc).map (fun d => d.parameters.length) = some 2 := by decide +kernel
set_option maxHeartbeats 4000000 in
set_option maxRecDepth 100000 in
theorem m_X9_isStrictly (l : Launch) (G : zt_G) {σ : zt_St} {x0 : Int32} {x1 : Int32} {r : Int32} (hf : f_X9_isStrictly x0 x1 = some r) : zt_Mi l G yX9_isStrictly wsX9_isStrictly 3 65 [.int x0, .int x1] σ r σ := by
  refine Met.ofW (cc := cX9_isStrictly) (maxL := 2) (ret := (some .boolean)) (by decide) rfl ?_
  intro p e s m args below meth c s₁ B hml hv
  obtain ⟨rfl, hBB⟩ := hv
  have hE := zt_B.env hBB; have hK := hE.2.1; have hP := hBB.2.1
  have hx := B.exec; have hb := B.bytes; have hr := B.returns; have hts := atoms_spec (ws := wsX9_isStrictly) B.pre
  have hown : s.vm.findClass RX9 = some m.cls := findClass_of_methodNamed B.named
  have hlocks := B.notSynchronized
  have hS : va_S (zt_A G) s.heap s.heap [] := va_S.rf
  have hl := lv_entry ([.int x0, .int x1]) (n := 2) (Nat.le_of_ble_eq_true rfl)
  rw [lg_entry_eq]
  generalize (lg_sl ([.int x0, .int x1]) ++ List.replicate (2 - (lg_sl ([.int x0, .int x1])).length) Slot.unset).toArray = ls at hl ⊢
  have hl : lv_has ls 2 [(0, .int x0), (1, .int x1)] := hl
  show W p l e (zt_R 3 65) s m ([.int x0, .int x1] : List Value).toArray below meth c s.heap [] 0 0 (MQ below (zt_Ci G r σ) ([.int x0, .int x1] : List Value).toArray s 0 0 (zt_A G)) (F0 m 0 ls [])
  unfold f_X9_isStrictly at hf
  refine lv_iload_n hx hb dX9_isStrictly_0 rfl (lv_at hl 0 rfl) ?_
  refine lv_iload_n hx hb dX9_isStrictly_1 rfl (lv_at hl 1 rfl) ?_
  refine lv_icmp_eq (tgt := 17) hx hb dX9_isStrictly_2 (by decide) (fun c1 => ?_) (fun c1 => ?_)
  · have hf := (if_pos c1).symm.trans hf
    refine lv_iconst (v := 0) hx hb dX9_isStrictly_17 (by decide) ?_
    exact W.zret hx hb hr (zt_bn (by decide)).1 (fun t ht hW => ⟨⟨_, _, rfl, ⟨Option.some.inj hf, rfl⟩, zt_go hE hP hS zt_id ht hW⟩, hS.F ht⟩) hS.2.2 dX9_isStrictly_18
  · have hf := (if_neg c1).symm.trans hf
    refine lv_iload_n hx hb dX9_isStrictly_5 rfl (lv_at hl 0 rfl) ?_
    refine lv_iload_n hx hb dX9_isStrictly_6 rfl (lv_at hl 1 rfl) ?_
    obtain ⟨v2, hvv2, hf⟩ := zt_bd_some hf
    refine va_calli (va_runS (As := [.int x0, .int x1]) (rest := []) ⟨hx, hb, hml, hown, hts⟩ (m_X9_isUnder l G (σ := σ) hvv2) (va_cwS 2 hts gX9_isStrictly_X9_isUnder rfl rfl rfl zh_X9_isUnder ⟨Nat.le_of_ble_eq_true rfl, Nat.le_of_ble_eq_true rfl⟩) ⟨zt_blind, fun U hU hW => ⟨rfl, zt_go hE hP hS zt_id hU hW⟩⟩ rfl rfl hl.1 rfl (lv_room (Nat.le_of_ble_eq_true rfl)) dX9_isStrictly_7 ⟨Nat.zero_le _, Nat.zero_le _⟩) hS (fun _ _ h => h) (fun _ h => h) (fun r u t H locs ht hvm hw hB _ _ hS => ?_)
    rw [hw.1]; have hB : zt_B G u t := hB; rw [hw.2] at hB; have hP := zt_B.P hB ht
    refine lv_if_eq (tgt := 17) hx hb dX9_isStrictly_10 (by decide) (fun c4 => ?_) (fun c4 => ?_)
    · have hf := (if_pos c4).symm.trans hf
      refine lv_iconst (v := 0) hx hb dX9_isStrictly_17 (by decide) ?_
      exact W.zret hx hb hr (zt_bn (by decide)).1 (fun t ht hW => ⟨⟨_, _, rfl, ⟨Option.some.inj hf, rfl⟩, zt_go hE hP hS zt_id ht hW⟩, hS.F ht⟩) hS.2.2 dX9_isStrictly_18
    · have hf := (if_neg c4).symm.trans hf
      refine lv_iconst (v := 1) hx hb dX9_isStrictly_13 (by decide) ?_
      refine lv_goto (tgt := 18) hx hb dX9_isStrictly_14 (by decide) ?_
      exact W.zret hx hb hr (zt_bn (by decide)).1 (fun t ht hW => ⟨⟨_, _, rfl, ⟨Option.some.inj hf, rfl⟩, zt_go hE hP hS zt_id ht hW⟩, hS.F ht⟩) hS.2.2 dX9_isStrictly_18

theorem zh_X9_order : yX9_order.cls ≠ "java/lang/invoke/MethodHandle" ∧ yX9_order.cls ≠ "java/lang/invoke/VarHandle" ∧ (parseMethodDescriptor yX9_order.desc).map (fun d => d.parameters.length) = some 1 := by decide +kernel
set_option maxHeartbeats 4000000 in
set_option maxRecDepth 100000 in
theorem m_X9_order (l : Launch) (G : zt_G) {σ : zt_St} {x0 : Int32} {r : Int32} (hf : f_X9_order x0 = some r) : zt_Mi l G yX9_order wsX9_order 1 22 [.int x0] σ r σ := by
  refine Met.ofW (cc := cX9_order) (maxL := 4) (ret := (some .int)) (by decide) rfl ?_
  intro p e s m args below meth c s₁ B hml hv
  obtain ⟨rfl, hBB⟩ := hv
  have hE := zt_B.env hBB; have hK := hE.2.1; have hP := hBB.2.1
  have hx := B.exec; have hb := B.bytes; have hr := B.returns; have hts := atoms_spec (ws := wsX9_order) B.pre
  have hown : s.vm.findClass RX9 = some m.cls := findClass_of_methodNamed B.named
  have hlocks := B.notSynchronized
  have hS : va_S (zt_A G) s.heap s.heap [] := va_S.rf
  have hl := lv_entry ([.int x0]) (n := 4) (Nat.le_of_ble_eq_true rfl)
  rw [lg_entry_eq]
  generalize (lg_sl ([.int x0]) ++ List.replicate (4 - (lg_sl ([.int x0])).length) Slot.unset).toArray = ls at hl ⊢
  have hl : lv_has ls 4 [(0, .int x0)] := hl
  show W p l e (zt_R 1 22) s m ([.int x0] : List Value).toArray below meth c s.heap [] 0 0 (MQ below (zt_Ci G r σ) ([.int x0] : List Value).toArray s 0 0 (zt_A G)) (F0 m 0 ls [])
  have B42 : ∀ (rc9 : Int32 → Int32 → Int32 → Int32 → Option (Int32)) (hrc9 : ∀ (u0 : Int32) (u1 : Int32) (u2 : Int32) (u3 : Int32) (H : Heap) (locs : List Loc) (ls : Array Slot), rc9 u0 u1 u2 u3 = some r → va_P (zt_D G) vwCl (zt_ww G σ) H → va_S (zt_A G) s.heap H locs → lv_has ls 4 [(0, .int u0), (1, .int u1), (2, .int u2), (3, .int u3)] → W p l e (zt_R 1 22) s m ([.int x0] : List Value).toArray below meth c H locs 0 0 (MQ below (zt_Ci G r σ) ([.int x0] : List Value).toArray s 0 0 (zt_A G)) (F0 m 9 ls [])), ∀ (y0 : Int32) (y1 : Int32) (u0 : Int32) (u1 : Int32) (u3 : Int32) (H : Heap) (locs : List Loc) (ls : Array Slot), f_X9_order_42 rc9 y0 y1 u0 u1 u3 = some r → va_P (zt_D G) vwCl (zt_ww G σ) H → va_S (zt_A G) s.heap H locs → lv_has ls 4 [(0, .int u0), (1, .int u1), (3, .int u3)] → W p l e (zt_R 1 22) s m ([.int x0] : List Value).toArray below meth c H locs 0 0 (MQ below (zt_Ci G r σ) ([.int x0] : List Value).toArray s 0 0 (zt_A G)) (F0 m 42 ls [.int y0, .int y1]) := by
    intro rc9 hrc9 y0 y1 u0 u1 u3 H locs ls hf hP hS hl
    unfold f_X9_order_42 at hf
    refine lv_iadd hx hb dX9_order_42 ?_
    refine lv_istore_n (lv' := [(2, .int (y1 + y0)), (0, .int u0), (1, .int u1), (3, .int u3)]) hx hb dX9_order_43 rfl hl (by decide) rfl (fun ls hl => ?_)
    refine lv_iinc (v := (u3 + 1)) (lv' := [(3, .int (u3 + 1)), (2, .int (y1 + y0)), (0, .int u0), (1, .int u1)]) hx hb dX9_order_44 hl (k := 3) rfl rfl (by decide) rfl (fun ls hl => ?_)
    refine lv_goto (tgt := 9) hx hb dX9_order_47 (by decide) ?_
    exact hrc9 u0 u1 (y1 + y0) (u3 + 1) _ _ _ hf hP hS (lv_sub hl [2, 3, 1, 0] rfl)
  have B9 : ∀ (n : Nat), ∀ (u0 : Int32) (u1 : Int32) (u2 : Int32) (u3 : Int32) (H : Heap) (locs : List Loc) (ls : Array Slot), f_X9_order_9 n u0 u1 u2 u3 = some r → va_P (zt_D G) vwCl (zt_ww G σ) H → va_S (zt_A G) s.heap H locs → lv_has ls 4 [(0, .int u0), (1, .int u1), (2, .int u2), (3, .int u3)] → W p l e (zt_R 1 22) s m ([.int x0] : List Value).toArray below meth c H locs 0 0 (MQ below (zt_Ci G r σ) ([.int x0] : List Value).toArray s 0 0 (zt_A G)) (F0 m 9 ls []) := by
    intro n
    induction n with
    | zero => intro u0 u1 u2 u3 H locs ls hf; exact nomatch hf
    | succ n hrc9 =>
      intro u0 u1 u2 u3 H locs ls hf hP hS hl
      generalize hrcg : f_X9_order_9 n = rc9 at hrc9
      have hf : f_X9_order_9b rc9 u0 u1 u2 u3 = some r := by rw [← hrcg]; exact hf
      unfold f_X9_order_9b at hf
      refine lv_iload_n hx hb dX9_order_9 rfl (lv_at hl 3 rfl) ?_
      refine lv_iconst (v := 5) hx hb dX9_order_10 (by decide) ?_
      refine lv_icmp_ge (tgt := 50) hx hb dX9_order_11 (by decide) (fun c3 => ?_) (fun c3 => ?_)
      · have hf := (if_pos c3).symm.trans hf
        refine lv_iload_n hx hb dX9_order_50 rfl (lv_at hl 2 rfl) ?_
        exact W.iret hx hb hr (fun t ht hW => ⟨⟨_, _, rfl, ⟨Option.some.inj hf, rfl⟩, zt_go hE hP hS zt_id ht hW⟩, hS.F ht⟩) hS.2.2 dX9_order_51
      · have hf := (if_neg c3).symm.trans hf
        refine lv_bipush (v := 11) hx hb dX9_order_14 (by decide +kernel) ?_
        refine lv_iload_n hx hb dX9_order_16 rfl (lv_at hl 2 rfl) ?_
        refine lv_imul hx hb dX9_order_17 ?_
        refine lv_iload_n hx hb dX9_order_18 rfl (lv_at hl 3 rfl) ?_
        refine lv_iload_n hx hb dX9_order_19 rfl (lv_at hl 1 rfl) ?_
        refine lv_icmp_ge (tgt := 41) hx hb dX9_order_20 (by decide) (fun c4 => ?_) (fun c4 => ?_)
        · have hf := (if_pos c4).symm.trans hf
          refine lv_iconst (v := 0) hx hb dX9_order_41 (by decide) ?_
          exact B42 rc9 hrc9 0 (11 * u2) u0 u1 u3 _ _ _ hf hP hS (lv_sub hl [0, 1, 3] rfl)
        · have hf := (if_neg c4).symm.trans hf
          refine lv_iload_n hx hb dX9_order_23 rfl (lv_at hl 0 rfl) ?_
          refine lv_iload_n hx hb dX9_order_24 rfl (lv_at hl 1 rfl) ?_
          refine lv_iconst (v := 1) hx hb dX9_order_25 (by decide) ?_
          refine lv_isub hx hb dX9_order_26 ?_
          refine lv_iload_n hx hb dX9_order_27 rfl (lv_at hl 3 rfl) ?_
          refine lv_isub hx hb dX9_order_28 ?_
          obtain ⟨v5, hvv5, hf⟩ := zt_bd_some hf
          refine va_calli (va_runS (As := [.int ((u1 - 1) - u3)]) (rest := [.int u0, .int (11 * u2)]) ⟨hx, hb, hml, hown, hts⟩ (m_X9_ten l G (σ := σ) hvv5) (va_cwS 1 hts gX9_order_X9_ten rfl rfl rfl zh_X9_ten ⟨Nat.le_of_ble_eq_true rfl, Nat.le_of_ble_eq_true rfl⟩) ⟨zt_blind, fun U hU hW => ⟨rfl, zt_go hE hP hS zt_id hU hW⟩⟩ rfl rfl hl.1 rfl (lv_room (Nat.le_of_ble_eq_true rfl)) dX9_order_29 ⟨Nat.zero_le _, Nat.zero_le _⟩) hS (fun _ _ h => h) (fun _ h => h) (fun r u t H locs ht hvm hw hB _ _ hS => ?_)
          rw [hw.1]; have hB : zt_B G u t := hB; rw [hw.2] at hB; have hP := zt_B.P hB ht
          obtain ⟨g7, hf⟩ := zt_gd_some hf
          refine lv_idiv hx hb dX9_order_32 (zt_nz0 g7) ?_
          refine lv_bipush (v := 10) hx hb dX9_order_33 (by decide +kernel) ?_
          refine lv_irem hx hb dX9_order_35 (by decide) ?_
          refine lv_iconst (v := 1) hx hb dX9_order_36 (by decide) ?_
          refine lv_iadd hx hb dX9_order_37 ?_
          refine lv_goto (tgt := 42) hx hb dX9_order_38 (by decide) ?_
          exact B42 rc9 hrc9 (((u0 / v5) - (u0 / v5) / 10 * 10) + 1) (11 * u2) u0 u1 u3 _ _ _ hf hP hS (lv_sub hl [0, 1, 3] rfl)
  unfold f_X9_order at hf
  refine lv_iload_n hx hb dX9_order_0 rfl (lv_at hl 0 rfl) ?_
  obtain ⟨v1, hvv1, hf⟩ := zt_bd_some hf
  refine va_calli (va_runS (As := [.int x0]) (rest := []) ⟨hx, hb, hml, hown, hts⟩ (m_X9_figures l G (σ := σ) hvv1) (va_cwS 1 hts gX9_order_X9_figures rfl rfl rfl zh_X9_figures ⟨Nat.le_of_ble_eq_true rfl, Nat.le_of_ble_eq_true rfl⟩) ⟨zt_blind, fun U hU hW => ⟨rfl, zt_go hE hP hS zt_id hU hW⟩⟩ rfl rfl hl.1 rfl (lv_room (Nat.le_of_ble_eq_true rfl)) dX9_order_1 ⟨Nat.zero_le _, Nat.zero_le _⟩) hS (fun _ _ h => h) (fun _ h => h) (fun r u t H locs ht hvm hw hB _ _ hS => ?_)
  rw [hw.1]; have hB : zt_B G u t := hB; rw [hw.2] at hB; have hP := zt_B.P hB ht
  refine lv_istore_n (lv' := [(1, .int v1), (0, .int x0)]) hx hb dX9_order_4 rfl hl (by decide) rfl (fun ls hl => ?_)
  refine lv_iconst (v := 0) hx hb dX9_order_5 (by decide) ?_
  refine lv_istore_n (lv' := [(2, .int 0), (1, .int v1), (0, .int x0)]) hx hb dX9_order_6 rfl hl (by decide) rfl (fun ls hl => ?_)
  refine lv_iconst (v := 0) hx hb dX9_order_7 (by decide) ?_
  refine lv_istore_n (lv' := [(3, .int 0), (2, .int 0), (1, .int v1), (0, .int x0)]) hx hb dX9_order_8 rfl hl (by decide) rfl (fun ls hl => ?_)
  exact B9 zt_FU x0 v1 0 0 _ _ _ hf hP hS (lv_sub hl [3, 2, 1, 0] rfl)

theorem zh_X9_find : yX9_find.cls = RX9 ∧ yX9_find.cls ≠ "java/lang/invoke/MethodHandle" ∧ yX9_find.cls ≠ "java/lang/invoke/VarHandle" ∧ (parseMethodDescriptor yX9_find.desc).map (fun d => d.parameters.length) = some 3 := by decide +kernel
set_option maxHeartbeats 4000000 in
set_option maxRecDepth 100000 in
theorem m_X9_find (l : Launch) (G : zt_G) {σ : zt_St} {x1 : Int32} {x2 : Int32} {x3 : Int32} {r : Int32} (hf : f_X9_find σ x1 x2 x3 = some r) : zt_Mi l G yX9_find wsX9_find 0 0 [.ref (zt_ad G 94), .int x1, .int x2, .int x3] σ r σ := by
  refine Met.ofW (cc := cX9_find) (maxL := 5) (ret := (some .int)) (by decide) rfl ?_
  intro p e s m args below meth c s₁ B hml hv
  obtain ⟨rfl, hBB⟩ := hv
  have hE := zt_B.env hBB; have hK := hE.2.1; have hP := hBB.2.1
  have hx := B.exec; have hb := B.bytes; have hr := B.returns; have hts := atoms_spec (ws := wsX9_find) B.pre
  have hown : s.vm.findClass RX9 = some m.cls := findClass_of_methodNamed B.named
  have hlocks := B.notSynchronized
  have hS : va_S (zt_A G) s.heap s.heap [] := va_S.rf
  have hl := lv_entry ([.ref (zt_ad G 94), .int x1, .int x2, .int x3]) (n := 5) (Nat.le_of_ble_eq_true rfl)
  rw [lg_entry_eq]
  generalize (lg_sl ([.ref (zt_ad G 94), .int x1, .int x2, .int x3]) ++ List.replicate (5 - (lg_sl ([.ref (zt_ad G 94), .int x1, .int x2, .int x3])).length) Slot.unset).toArray = ls at hl ⊢
  have hl : lv_has ls 5 [(0, .ref (zt_ad G 94)), (1, .int x1), (2, .int x2), (3, .int x3)] := hl
  show W p l e (zt_R 0 0) s m ([.ref (zt_ad G 94), .int x1, .int x2, .int x3] : List Value).toArray below meth c s.heap [] 0 0 (MQ below (zt_Ci G r σ) ([.ref (zt_ad G 94), .int x1, .int x2, .int x3] : List Value).toArray s 0 0 (zt_A G)) (F0 m 0 ls [])
  have fl42 := hts (.fieldLink RX9 42 "ZoneTreeModel" "many" "[I") (List.mem_cons_of_mem _ (List.mem_append_left _ (List.mem_of_getElem? (i := 0) rfl)))
  have fl45 := hts (.fieldLink RX9 45 "ZoneTreeModel" "name" "[I") (List.mem_cons_of_mem _ (List.mem_append_left _ (List.mem_of_getElem? (i := 1) rfl)))
  have fl48 := hts (.fieldLink RX9 48 "ZoneTreeModel" "sort" "[I") (List.mem_cons_of_mem _ (List.mem_append_left _ (List.mem_of_getElem? (i := 2) rfl)))
  have inX9 : ∀ w ∈ wsX90, w ∈ wsX9_find := fun w h => (List.mem_cons_of_mem _ (List.mem_append_right _ h))
  have B47 : ∀ (rc6 : Int32 → Int32 → Int32 → Int32 → Option (Int32)) (hrc6 : ∀ (u1 : Int32) (u2 : Int32) (u3 : Int32) (u4 : Int32) (H : Heap) (locs : List Loc) (ls : Array Slot), rc6 u1 u2 u3 u4 = some r → va_P (zt_D G) vwCl (zt_ww G σ) H → va_S (zt_A G) s.heap H locs → lv_has ls 5 [(0, .ref (zt_ad G 94)), (1, .int u1), (2, .int u2), (3, .int u3), (4, .int u4)] → W p l e (zt_R 0 0) s m ([.ref (zt_ad G 94), .int x1, .int x2, .int x3] : List Value).toArray below meth c H locs 0 0 (MQ below (zt_Ci G r σ) ([.ref (zt_ad G 94), .int x1, .int x2, .int x3] : List Value).toArray s 0 0 (zt_A G)) (F0 m 6 ls [])), ∀ (u1 : Int32) (u2 : Int32) (u3 : Int32) (u4 : Int32) (H : Heap) (locs : List Loc) (ls : Array Slot), f_X9_find_47 σ rc6 u1 u2 u3 u4 = some r → va_P (zt_D G) vwCl (zt_ww G σ) H → va_S (zt_A G) s.heap H locs → lv_has ls 5 [(0, .ref (zt_ad G 94)), (1, .int u1), (2, .int u2), (3, .int u3), (4, .int u4)] → W p l e (zt_R 0 0) s m ([.ref (zt_ad G 94), .int x1, .int x2, .int x3] : List Value).toArray below meth c H locs 0 0 (MQ below (zt_Ci G r σ) ([.ref (zt_ad G 94), .int x1, .int x2, .int x3] : List Value).toArray s 0 0 (zt_A G)) (F0 m 47 ls []) := by
    intro rc6 hrc6 u1 u2 u3 u4 H locs ls hf hP hS hl
    unfold f_X9_find_47 at hf
    refine lv_iinc (v := (u4 + 1)) (lv' := [(4, .int (u4 + 1)), (0, .ref (zt_ad G 94)), (1, .int u1), (2, .int u2), (3, .int u3)]) hx hb dX9_find_47 hl (k := 4) rfl rfl (by decide) rfl (fun ls hl => ?_)
    refine lv_goto (tgt := 6) hx hb dX9_find_50 (by decide) ?_
    exact hrc6 u1 u2 u3 (u4 + 1) _ _ _ hf hP hS (lv_sub hl [1, 2, 3, 4, 0] rfl)
  have B6 : ∀ (n : Nat), ∀ (u1 : Int32) (u2 : Int32) (u3 : Int32) (u4 : Int32) (H : Heap) (locs : List Loc) (ls : Array Slot), f_X9_find_6 σ n u1 u2 u3 u4 = some r → va_P (zt_D G) vwCl (zt_ww G σ) H → va_S (zt_A G) s.heap H locs → lv_has ls 5 [(0, .ref (zt_ad G 94)), (1, .int u1), (2, .int u2), (3, .int u3), (4, .int u4)] → W p l e (zt_R 0 0) s m ([.ref (zt_ad G 94), .int x1, .int x2, .int x3] : List Value).toArray below meth c H locs 0 0 (MQ below (zt_Ci G r σ) ([.ref (zt_ad G 94), .int x1, .int x2, .int x3] : List Value).toArray s 0 0 (zt_A G)) (F0 m 6 ls []) := by
    intro n
    induction n with
    | zero => intro u1 u2 u3 u4 H locs ls hf; exact nomatch hf
    | succ n hrc6 =>
      intro u1 u2 u3 u4 H locs ls hf hP hS hl
      generalize hrcg : f_X9_find_6 σ n = rc6 at hrc6
      have hf : f_X9_find_6b σ rc6 u1 u2 u3 u4 = some r := by rw [← hrcg]; exact hf
      unfold f_X9_find_6b at hf
      refine lv_iload hx hb dX9_find_6 (lv_at hl 4 rfl) ?_
      refine lv_bipush (v := 32) hx hb dX9_find_8 (by decide +kernel) ?_
      refine lv_iload_n hx hb dX9_find_10 rfl (lv_at hl 1 rfl) ?_
      refine lv_imul hx hb dX9_find_11 ?_
      refine lv_aload_n hx hb dX9_find_12 rfl (lv_at hl 0 rfl) ?_
      refine va_get (D := zt_D G) (ci := 8) (v := .ref (zt_ad G 103)) (C := RX9) (T := TX9) (N := 37) hx hb hts inX9 hown hK hP 94 (zt_a8 (rfl : zt_kd 94 = 8)) rfl 12 (by decide) fl42 (fun _ h9 => h9) rfl dX9_find_13 ?_
      refine lv_iload_n hx hb dX9_find_16 rfl (lv_at hl 1 rfl) ?_
      obtain ⟨g1, hf⟩ := zt_gd_some hf
      refine va_iald hx hb hK hP 103 0 zt_a_103 rfl (zt_gI_in g1) dX9_find_17 ?_
      refine lv_iadd hx hb dX9_find_18 ?_
      refine lv_icmp_ge (tgt := 53) hx hb dX9_find_19 (by decide) (fun c2 => ?_) (fun c2 => ?_)
      · have hf := (if_pos c2).symm.trans hf
        refine lv_iconst (v := (-1)) hx hb dX9_find_53 (by decide) ?_
        exact W.iret hx hb hr (fun t ht hW => ⟨⟨_, _, rfl, ⟨Option.some.inj hf, rfl⟩, zt_go hE hP hS zt_id ht hW⟩, hS.F ht⟩) hS.2.2 dX9_find_54
      · have hf := (if_neg c2).symm.trans hf
        refine lv_aload_n hx hb dX9_find_22 rfl (lv_at hl 0 rfl) ?_
        refine va_get (D := zt_D G) (ci := 8) (v := .ref (zt_ad G 104)) (C := RX9) (T := TX9) (N := 37) hx hb hts inX9 hown hK hP 94 (zt_a8 (rfl : zt_kd 94 = 8)) rfl 13 (by decide) fl45 (fun _ h9 => h9) rfl dX9_find_23 ?_
        refine lv_iload hx hb dX9_find_26 (lv_at hl 4 rfl) ?_
        obtain ⟨g3, hf⟩ := zt_gd_some hf
        refine va_iald hx hb hK hP 104 0 zt_a_104 rfl (zt_gI_in g3) dX9_find_28 ?_
        refine lv_iload_n hx hb dX9_find_29 rfl (lv_at hl 2 rfl) ?_
        refine lv_icmp_ne (tgt := 47) hx hb dX9_find_30 (by decide) (fun c4 => ?_) (fun c4 => ?_)
        · have hf := (if_neg c4).symm.trans hf
          exact B47 rc6 hrc6 u1 u2 u3 u4 _ _ _ hf hP hS (lv_sub hl [0, 1, 2, 3, 4] rfl)
        · have hf := (if_pos c4).symm.trans hf
          refine lv_aload_n hx hb dX9_find_33 rfl (lv_at hl 0 rfl) ?_
          refine va_get (D := zt_D G) (ci := 8) (v := .ref (zt_ad G 105)) (C := RX9) (T := TX9) (N := 37) hx hb hts inX9 hown hK hP 94 (zt_a8 (rfl : zt_kd 94 = 8)) rfl 14 (by decide) fl48 (fun _ h9 => h9) rfl dX9_find_34 ?_
          refine lv_iload hx hb dX9_find_37 (lv_at hl 4 rfl) ?_
          obtain ⟨g5, hf⟩ := zt_gd_some hf
          refine va_iald hx hb hK hP 105 0 zt_a_105 rfl (zt_gI_in g5) dX9_find_39 ?_
          refine lv_iload_n hx hb dX9_find_40 rfl (lv_at hl 3 rfl) ?_
          refine lv_icmp_ne (tgt := 47) hx hb dX9_find_41 (by decide) (fun c6 => ?_) (fun c6 => ?_)
          · have hf := (if_neg c6).symm.trans hf
            exact B47 rc6 hrc6 u1 u2 u3 u4 _ _ _ hf hP hS (lv_sub hl [0, 1, 2, 3, 4] rfl)
          · have hf := (if_pos c6).symm.trans hf
            refine lv_iload hx hb dX9_find_44 (lv_at hl 4 rfl) ?_
            exact W.iret hx hb hr (fun t ht hW => ⟨⟨_, _, rfl, ⟨Option.some.inj hf, rfl⟩, zt_go hE hP hS zt_id ht hW⟩, hS.F ht⟩) hS.2.2 dX9_find_46
  unfold f_X9_find at hf
  refine lv_bipush (v := 32) hx hb dX9_find_0 (by decide +kernel) ?_
  refine lv_iload_n hx hb dX9_find_2 rfl (lv_at hl 1 rfl) ?_
  refine lv_imul hx hb dX9_find_3 ?_
  refine lv_istore (lv' := [(4, .int (32 * x1)), (0, .ref (zt_ad G 94)), (1, .int x1), (2, .int x2), (3, .int x3)]) hx hb dX9_find_4 hl (by decide) rfl (fun ls hl => ?_)
  exact B6 zt_FU x1 x2 x3 (32 * x1) _ _ _ hf hP hS (lv_sub hl [1, 2, 3, 4, 0] rfl)

theorem zh_X9_isThere : yX9_isThere.cls = RX9 ∧ yX9_isThere.cls ≠ "java/lang/invoke/MethodHandle" ∧ yX9_isThere.cls ≠ "java/lang/invoke/VarHandle" ∧ (parseMethodDescriptor yX9_isThere.desc).map (fun d => d.parameters.length) = some 2 := by decide +kernel
set_option maxHeartbeats 4000000 in
set_option maxRecDepth 100000 in
theorem m_X9_isThere (l : Launch) (G : zt_G) {σ : zt_St} {x1 : Int32} {x2 : Int32} {r : Int32} (hf : f_X9_isThere σ x1 x2 = some r) : zt_Mi l G yX9_isThere wsX9_isThere 3 65 [.ref (zt_ad G 94), .int x1, .int x2] σ r σ := by
  refine Met.ofW (cc := cX9_isThere) (maxL := 5) (ret := (some .boolean)) (by decide) rfl ?_
  intro p e s m args below meth c s₁ B hml hv
  obtain ⟨rfl, hBB⟩ := hv
  have hE := zt_B.env hBB; have hK := hE.2.1; have hP := hBB.2.1
  have hx := B.exec; have hb := B.bytes; have hr := B.returns; have hts := atoms_spec (ws := wsX9_isThere) B.pre
  have hown : s.vm.findClass RX9 = some m.cls := findClass_of_methodNamed B.named
  have hlocks := B.notSynchronized
  have hS : va_S (zt_A G) s.heap s.heap [] := va_S.rf
  have hl := lv_entry ([.ref (zt_ad G 94), .int x1, .int x2]) (n := 5) (Nat.le_of_ble_eq_true rfl)
  rw [lg_entry_eq]
  generalize (lg_sl ([.ref (zt_ad G 94), .int x1, .int x2]) ++ List.replicate (5 - (lg_sl ([.ref (zt_ad G 94), .int x1, .int x2])).length) Slot.unset).toArray = ls at hl ⊢
  have hl : lv_has ls 5 [(0, .ref (zt_ad G 94)), (1, .int x1), (2, .int x2)] := hl
  show W p l e (zt_R 3 65) s m ([.ref (zt_ad G 94), .int x1, .int x2] : List Value).toArray below meth c s.heap [] 0 0 (MQ below (zt_Ci G r σ) ([.ref (zt_ad G 94), .int x1, .int x2] : List Value).toArray s 0 0 (zt_A G)) (F0 m 0 ls [])
  have fl42 := hts (.fieldLink RX9 42 "ZoneTreeModel" "many" "[I") (List.mem_cons_of_mem _ (List.mem_append_left _ (List.mem_of_getElem? (i := 0) rfl)))
  have fl45 := hts (.fieldLink RX9 45 "ZoneTreeModel" "name" "[I") (List.mem_cons_of_mem _ (List.mem_append_left _ (List.mem_of_getElem? (i := 1) rfl)))
  have inX9 : ∀ w ∈ wsX90, w ∈ wsX9_isThere := fun w h => (List.mem_cons_of_mem _ (List.mem_append_right _ h))
  have B8 : ∀ (n : Nat), ∀ (u1 : Int32) (u2 : Int32) (u3 : Int32) (u4 : Int32) (H : Heap) (locs : List Loc) (ls : Array Slot), f_X9_isThere_8 σ n u1 u2 u3 u4 = some r → va_P (zt_D G) vwCl (zt_ww G σ) H → va_S (zt_A G) s.heap H locs → lv_has ls 5 [(0, .ref (zt_ad G 94)), (1, .int u1), (2, .int u2), (3, .int u3), (4, .int u4)] → W p l e (zt_R 3 65) s m ([.ref (zt_ad G 94), .int x1, .int x2] : List Value).toArray below meth c H locs 0 0 (MQ below (zt_Ci G r σ) ([.ref (zt_ad G 94), .int x1, .int x2] : List Value).toArray s 0 0 (zt_A G)) (F0 m 8 ls []) := by
    intro n
    induction n with
    | zero => intro u1 u2 u3 u4 H locs ls hf; exact nomatch hf
    | succ n hrc8 =>
      intro u1 u2 u3 u4 H locs ls hf hP hS hl
      generalize hrcg : f_X9_isThere_8 σ n = rc8 at hrc8
      have hf : f_X9_isThere_8b σ rc8 u1 u2 u3 u4 = some r := by rw [← hrcg]; exact hf
      unfold f_X9_isThere_8b at hf
      refine lv_iload hx hb dX9_isThere_8 (lv_at hl 4 rfl) ?_
      refine lv_bipush (v := 32) hx hb dX9_isThere_10 (by decide +kernel) ?_
      refine lv_iload_n hx hb dX9_isThere_12 rfl (lv_at hl 1 rfl) ?_
      refine lv_imul hx hb dX9_isThere_13 ?_
      refine lv_aload_n hx hb dX9_isThere_14 rfl (lv_at hl 0 rfl) ?_
      refine va_get (D := zt_D G) (ci := 8) (v := .ref (zt_ad G 103)) (C := RX9) (T := TX9) (N := 37) hx hb hts inX9 hown hK hP 94 (zt_a8 (rfl : zt_kd 94 = 8)) rfl 12 (by decide) fl42 (fun _ h9 => h9) rfl dX9_isThere_15 ?_
      refine lv_iload_n hx hb dX9_isThere_18 rfl (lv_at hl 1 rfl) ?_
      obtain ⟨g1, hf⟩ := zt_gd_some hf
      refine va_iald hx hb hK hP 103 0 zt_a_103 rfl (zt_gI_in g1) dX9_isThere_19 ?_
      refine lv_iadd hx hb dX9_isThere_20 ?_
      refine lv_icmp_ge (tgt := 47) hx hb dX9_isThere_21 (by decide) (fun c2 => ?_) (fun c2 => ?_)
      · have hf := (if_pos c2).symm.trans hf
        refine lv_iload_n hx hb dX9_isThere_47 rfl (lv_at hl 3 rfl) ?_
        obtain ⟨g3, hf⟩ := zt_gd_some hf
        exact W.zret hx hb hr (zt_bn g3).1 (fun t ht hW => ⟨⟨_, _, rfl, ⟨Option.some.inj hf, rfl⟩, zt_go hE hP hS zt_id ht hW⟩, hS.F ht⟩) hS.2.2 dX9_isThere_48
      · have hf := (if_neg c2).symm.trans hf
        refine lv_iload_n hx hb dX9_isThere_24 rfl (lv_at hl 3 rfl) ?_
        refine lv_aload_n hx hb dX9_isThere_25 rfl (lv_at hl 0 rfl) ?_
        refine va_get (D := zt_D G) (ci := 8) (v := .ref (zt_ad G 104)) (C := RX9) (T := TX9) (N := 37) hx hb hts inX9 hown hK hP 94 (zt_a8 (rfl : zt_kd 94 = 8)) rfl 13 (by decide) fl45 (fun _ h9 => h9) rfl dX9_isThere_26 ?_
        refine lv_iload hx hb dX9_isThere_29 (lv_at hl 4 rfl) ?_
        obtain ⟨g4, hf⟩ := zt_gd_some hf
        refine va_iald hx hb hK hP 104 0 zt_a_104 rfl (zt_gI_in g4) dX9_isThere_31 ?_
        obtain ⟨v5, hvv5, hf⟩ := zt_bd_some hf
        refine va_calli (va_runS (As := [.int (σ 104 u4.toNatClampNeg)]) (rest := [.int u3]) ⟨hx, hb, hml, hown, hts⟩ (m_X9_base l G (σ := σ) hvv5) (va_cwS 1 hts gX9_isThere_X9_base rfl rfl rfl zh_X9_base ⟨Nat.le_of_ble_eq_true rfl, Nat.le_of_ble_eq_true rfl⟩) ⟨zt_blind, fun U hU hW => ⟨rfl, zt_go hE hP hS zt_id hU hW⟩⟩ rfl rfl hl.1 rfl (lv_room (Nat.le_of_ble_eq_true rfl)) dX9_isThere_32 ⟨Nat.zero_le _, Nat.zero_le _⟩) hS (fun _ _ h => h) (fun _ h => h) (fun r u t H locs ht hvm hw hB _ _ hS => ?_)
        rw [hw.1]; have hB : zt_B G u t := hB; rw [hw.2] at hB; have hP := zt_B.P hB ht
        refine lv_iload_n hx hb dX9_isThere_35 rfl (lv_at hl 2 rfl) ?_
        obtain ⟨v7, hvv7, hf⟩ := zt_bd_some hf
        refine va_calli (va_runS (As := [.int v5, .int u2]) (rest := [.int u3]) ⟨hx, hb, hml, hown, hts⟩ (m_X9_isUnder l G (σ := σ) hvv7) (va_cwS 2 hts gX9_isThere_X9_isUnder rfl rfl rfl zh_X9_isUnder ⟨Nat.le_of_ble_eq_true rfl, Nat.le_of_ble_eq_true rfl⟩) ⟨zt_blind, fun U hU hW => ⟨rfl, zt_go hE hP hS zt_id hU hW⟩⟩ rfl rfl hl.1 rfl (lv_room (Nat.le_of_ble_eq_true rfl)) dX9_isThere_36 ⟨Nat.zero_le _, Nat.zero_le _⟩) hS (fun _ _ h => h) (fun _ h => h) (fun r u t H locs ht hvm hw hB _ _ hS => ?_)
        rw [hw.1]; have hB : zt_B G u t := hB; rw [hw.2] at hB; have hP := zt_B.P hB ht
        refine lv_ior hx hb dX9_isThere_39 ?_
        refine lv_istore_n (lv' := [(3, .int (u3 ||| v7)), (0, .ref (zt_ad G 94)), (1, .int u1), (2, .int u2), (4, .int u4)]) hx hb dX9_isThere_40 rfl hl (by decide) rfl (fun ls hl => ?_)
        refine lv_iinc (v := (u4 + 1)) (lv' := [(4, .int (u4 + 1)), (3, .int (u3 ||| v7)), (0, .ref (zt_ad G 94)), (1, .int u1), (2, .int u2)]) hx hb dX9_isThere_41 hl (k := 4) rfl rfl (by decide) rfl (fun ls hl => ?_)
        refine lv_goto (tgt := 8) hx hb dX9_isThere_44 (by decide) ?_
        exact hrc8 u1 u2 (u3 ||| v7) (u4 + 1) _ _ _ hf hP hS (lv_sub hl [2, 3, 4, 1, 0] rfl)
  unfold f_X9_isThere at hf
  refine lv_iconst (v := 0) hx hb dX9_isThere_0 (by decide) ?_
  refine lv_istore_n (lv' := [(3, .int 0), (0, .ref (zt_ad G 94)), (1, .int x1), (2, .int x2)]) hx hb dX9_isThere_1 rfl hl (by decide) rfl (fun ls hl => ?_)
  refine lv_bipush (v := 32) hx hb dX9_isThere_2 (by decide +kernel) ?_
  refine lv_iload_n hx hb dX9_isThere_4 rfl (lv_at hl 2 rfl) ?_
  refine lv_imul hx hb dX9_isThere_5 ?_
  refine lv_istore (lv' := [(4, .int (32 * x1)), (3, .int 0), (0, .ref (zt_ad G 94)), (1, .int x1), (2, .int x2)]) hx hb dX9_isThere_6 hl (by decide) rfl (fun ls hl => ?_)
  exact B8 zt_FU x1 x2 0 (32 * x1) _ _ _ hf hP hS (lv_sub hl [2, 3, 4, 1, 0] rfl)

theorem zh_X9_isStarThere : yX9_isStarThere.cls = RX9 ∧ yX9_isStarThere.cls ≠ "java/lang/invoke/MethodHandle" ∧ yX9_isStarThere.cls ≠ "java/lang/invoke/VarHandle" ∧ (parseMethodDescriptor yX9_isStarThere.desc).map (fun d => d.parameters.length) = some 2 := by decide +kernel
set_option maxHeartbeats 4000000 in
set_option maxRecDepth 100000 in
theorem m_X9_isStarThere (l : Launch) (G : zt_G) {σ : zt_St} {x1 : Int32} {x2 : Int32} {r : Int32} (hf : f_X9_isStarThere σ x1 x2 = some r) : zt_Mi l G yX9_isStarThere wsX9_isStarThere 0 0 [.ref (zt_ad G 94), .int x1, .int x2] σ r σ := by
  refine Met.ofW (cc := cX9_isStarThere) (maxL := 5) (ret := (some .boolean)) (by decide) rfl ?_
  intro p e s m args below meth c s₁ B hml hv
  obtain ⟨rfl, hBB⟩ := hv
  have hE := zt_B.env hBB; have hK := hE.2.1; have hP := hBB.2.1
  have hx := B.exec; have hb := B.bytes; have hr := B.returns; have hts := atoms_spec (ws := wsX9_isStarThere) B.pre
  have hown : s.vm.findClass RX9 = some m.cls := findClass_of_methodNamed B.named
  have hlocks := B.notSynchronized
  have hS : va_S (zt_A G) s.heap s.heap [] := va_S.rf
  have hl := lv_entry ([.ref (zt_ad G 94), .int x1, .int x2]) (n := 5) (Nat.le_of_ble_eq_true rfl)
  rw [lg_entry_eq]
  generalize (lg_sl ([.ref (zt_ad G 94), .int x1, .int x2]) ++ List.replicate (5 - (lg_sl ([.ref (zt_ad G 94), .int x1, .int x2])).length) Slot.unset).toArray = ls at hl ⊢
  have hl : lv_has ls 5 [(0, .ref (zt_ad G 94)), (1, .int x1), (2, .int x2)] := hl
  show W p l e (zt_R 0 0) s m ([.ref (zt_ad G 94), .int x1, .int x2] : List Value).toArray below meth c s.heap [] 0 0 (MQ below (zt_Ci G r σ) ([.ref (zt_ad G 94), .int x1, .int x2] : List Value).toArray s 0 0 (zt_A G)) (F0 m 0 ls [])
  have fl42 := hts (.fieldLink RX9 42 "ZoneTreeModel" "many" "[I") (List.mem_cons_of_mem _ (List.mem_append_left _ (List.mem_of_getElem? (i := 0) rfl)))
  have fl45 := hts (.fieldLink RX9 45 "ZoneTreeModel" "name" "[I") (List.mem_cons_of_mem _ (List.mem_append_left _ (List.mem_of_getElem? (i := 1) rfl)))
  have inX9 : ∀ w ∈ wsX90, w ∈ wsX9_isStarThere := fun w h => (List.mem_cons_of_mem _ (List.mem_append_right _ h))
  have B48 : ∀ (rc8 : Int32 → Int32 → Int32 → Int32 → Option (Int32)) (hrc8 : ∀ (u1 : Int32) (u2 : Int32) (u3 : Int32) (u4 : Int32) (H : Heap) (locs : List Loc) (ls : Array Slot), rc8 u1 u2 u3 u4 = some r → va_P (zt_D G) vwCl (zt_ww G σ) H → va_S (zt_A G) s.heap H locs → lv_has ls 5 [(0, .ref (zt_ad G 94)), (1, .int u1), (2, .int u2), (3, .int u3), (4, .int u4)] → W p l e (zt_R 0 0) s m ([.ref (zt_ad G 94), .int x1, .int x2] : List Value).toArray below meth c H locs 0 0 (MQ below (zt_Ci G r σ) ([.ref (zt_ad G 94), .int x1, .int x2] : List Value).toArray s 0 0 (zt_A G)) (F0 m 8 ls [])), ∀ (y0 : Int32) (y1 : Int32) (u1 : Int32) (u2 : Int32) (u4 : Int32) (H : Heap) (locs : List Loc) (ls : Array Slot), f_X9_isStarThere_48 σ rc8 y0 y1 u1 u2 u4 = some r → va_P (zt_D G) vwCl (zt_ww G σ) H → va_S (zt_A G) s.heap H locs → lv_has ls 5 [(0, .ref (zt_ad G 94)), (1, .int u1), (2, .int u2), (4, .int u4)] → W p l e (zt_R 0 0) s m ([.ref (zt_ad G 94), .int x1, .int x2] : List Value).toArray below meth c H locs 0 0 (MQ below (zt_Ci G r σ) ([.ref (zt_ad G 94), .int x1, .int x2] : List Value).toArray s 0 0 (zt_A G)) (F0 m 48 ls [.int y0, .int y1]) := by
    intro rc8 hrc8 y0 y1 u1 u2 u4 H locs ls hf hP hS hl
    unfold f_X9_isStarThere_48 at hf
    refine lv_ior hx hb dX9_isStarThere_48 ?_
    refine lv_istore_n (lv' := [(3, .int (y1 ||| y0)), (0, .ref (zt_ad G 94)), (1, .int u1), (2, .int u2), (4, .int u4)]) hx hb dX9_isStarThere_49 rfl hl (by decide) rfl (fun ls hl => ?_)
    refine lv_iinc (v := (u4 + 1)) (lv' := [(4, .int (u4 + 1)), (3, .int (y1 ||| y0)), (0, .ref (zt_ad G 94)), (1, .int u1), (2, .int u2)]) hx hb dX9_isStarThere_50 hl (k := 4) rfl rfl (by decide) rfl (fun ls hl => ?_)
    refine lv_goto (tgt := 8) hx hb dX9_isStarThere_53 (by decide) ?_
    exact hrc8 u1 u2 (y1 ||| y0) (u4 + 1) _ _ _ hf hP hS (lv_sub hl [2, 3, 4, 1, 0] rfl)
  have B47 : ∀ (rc8 : Int32 → Int32 → Int32 → Int32 → Option (Int32)) (hrc8 : ∀ (u1 : Int32) (u2 : Int32) (u3 : Int32) (u4 : Int32) (H : Heap) (locs : List Loc) (ls : Array Slot), rc8 u1 u2 u3 u4 = some r → va_P (zt_D G) vwCl (zt_ww G σ) H → va_S (zt_A G) s.heap H locs → lv_has ls 5 [(0, .ref (zt_ad G 94)), (1, .int u1), (2, .int u2), (3, .int u3), (4, .int u4)] → W p l e (zt_R 0 0) s m ([.ref (zt_ad G 94), .int x1, .int x2] : List Value).toArray below meth c H locs 0 0 (MQ below (zt_Ci G r σ) ([.ref (zt_ad G 94), .int x1, .int x2] : List Value).toArray s 0 0 (zt_A G)) (F0 m 8 ls [])), ∀ (y0 : Int32) (u1 : Int32) (u2 : Int32) (u4 : Int32) (H : Heap) (locs : List Loc) (ls : Array Slot), f_X9_isStarThere_47 σ rc8 y0 u1 u2 u4 = some r → va_P (zt_D G) vwCl (zt_ww G σ) H → va_S (zt_A G) s.heap H locs → lv_has ls 5 [(0, .ref (zt_ad G 94)), (1, .int u1), (2, .int u2), (4, .int u4)] → W p l e (zt_R 0 0) s m ([.ref (zt_ad G 94), .int x1, .int x2] : List Value).toArray below meth c H locs 0 0 (MQ below (zt_Ci G r σ) ([.ref (zt_ad G 94), .int x1, .int x2] : List Value).toArray s 0 0 (zt_A G)) (F0 m 47 ls [.int y0]) := by
    intro rc8 hrc8 y0 u1 u2 u4 H locs ls hf hP hS hl
    unfold f_X9_isStarThere_47 at hf
    refine lv_iconst (v := 0) hx hb dX9_isStarThere_47 (by decide) ?_
    exact B48 rc8 hrc8 0 y0 u1 u2 u4 _ _ _ hf hP hS (lv_sub hl [0, 1, 2, 3] rfl)
  have B8 : ∀ (n : Nat), ∀ (u1 : Int32) (u2 : Int32) (u3 : Int32) (u4 : Int32) (H : Heap) (locs : List Loc) (ls : Array Slot), f_X9_isStarThere_8 σ n u1 u2 u3 u4 = some r → va_P (zt_D G) vwCl (zt_ww G σ) H → va_S (zt_A G) s.heap H locs → lv_has ls 5 [(0, .ref (zt_ad G 94)), (1, .int u1), (2, .int u2), (3, .int u3), (4, .int u4)] → W p l e (zt_R 0 0) s m ([.ref (zt_ad G 94), .int x1, .int x2] : List Value).toArray below meth c H locs 0 0 (MQ below (zt_Ci G r σ) ([.ref (zt_ad G 94), .int x1, .int x2] : List Value).toArray s 0 0 (zt_A G)) (F0 m 8 ls []) := by
    intro n
    induction n with
    | zero => intro u1 u2 u3 u4 H locs ls hf; exact nomatch hf
    | succ n hrc8 =>
      intro u1 u2 u3 u4 H locs ls hf hP hS hl
      generalize hrcg : f_X9_isStarThere_8 σ n = rc8 at hrc8
      have hf : f_X9_isStarThere_8b σ rc8 u1 u2 u3 u4 = some r := by rw [← hrcg]; exact hf
      unfold f_X9_isStarThere_8b at hf
      refine lv_iload hx hb dX9_isStarThere_8 (lv_at hl 4 rfl) ?_
      refine lv_bipush (v := 32) hx hb dX9_isStarThere_10 (by decide +kernel) ?_
      refine lv_iload_n hx hb dX9_isStarThere_12 rfl (lv_at hl 1 rfl) ?_
      refine lv_imul hx hb dX9_isStarThere_13 ?_
      refine lv_aload_n hx hb dX9_isStarThere_14 rfl (lv_at hl 0 rfl) ?_
      refine va_get (D := zt_D G) (ci := 8) (v := .ref (zt_ad G 103)) (C := RX9) (T := TX9) (N := 37) hx hb hts inX9 hown hK hP 94 (zt_a8 (rfl : zt_kd 94 = 8)) rfl 12 (by decide) fl42 (fun _ h9 => h9) rfl dX9_isStarThere_15 ?_
      refine lv_iload_n hx hb dX9_isStarThere_18 rfl (lv_at hl 1 rfl) ?_
      obtain ⟨g1, hf⟩ := zt_gd_some hf
      refine va_iald hx hb hK hP 103 0 zt_a_103 rfl (zt_gI_in g1) dX9_isStarThere_19 ?_
      refine lv_iadd hx hb dX9_isStarThere_20 ?_
      refine lv_icmp_ge (tgt := 56) hx hb dX9_isStarThere_21 (by decide) (fun c2 => ?_) (fun c2 => ?_)
      · have hf := (if_pos c2).symm.trans hf
        refine lv_iload_n hx hb dX9_isStarThere_56 rfl (lv_at hl 3 rfl) ?_
        obtain ⟨g3, hf⟩ := zt_gd_some hf
        exact W.zret hx hb hr (zt_bn g3).1 (fun t ht hW => ⟨⟨_, _, rfl, ⟨Option.some.inj hf, rfl⟩, zt_go hE hP hS zt_id ht hW⟩, hS.F ht⟩) hS.2.2 dX9_isStarThere_57
      · have hf := (if_neg c2).symm.trans hf
        refine lv_iload_n hx hb dX9_isStarThere_24 rfl (lv_at hl 3 rfl) ?_
        refine lv_iload_n hx hb dX9_isStarThere_25 rfl (lv_at hl 2 rfl) ?_
        refine lv_if_le (tgt := 47) hx hb dX9_isStarThere_26 (by decide) (fun c4 => ?_) (fun c4 => ?_)
        · have hf := (if_pos c4).symm.trans hf
          exact B47 rc8 hrc8 u3 u1 u2 u4 _ _ _ hf hP hS (lv_sub hl [0, 1, 2, 4] rfl)
        · have hf := (if_neg c4).symm.trans hf
          refine lv_aload_n hx hb dX9_isStarThere_29 rfl (lv_at hl 0 rfl) ?_
          refine va_get (D := zt_D G) (ci := 8) (v := .ref (zt_ad G 104)) (C := RX9) (T := TX9) (N := 37) hx hb hts inX9 hown hK hP 94 (zt_a8 (rfl : zt_kd 94 = 8)) rfl 13 (by decide) fl45 (fun _ h9 => h9) rfl dX9_isStarThere_30 ?_
          refine lv_iload hx hb dX9_isStarThere_33 (lv_at hl 4 rfl) ?_
          obtain ⟨g5, hf⟩ := zt_gd_some hf
          refine va_iald hx hb hK hP 104 0 zt_a_104 rfl (zt_gI_in g5) dX9_isStarThere_35 ?_
          refine lv_bipush (v := 10) hx hb dX9_isStarThere_36 (by decide +kernel) ?_
          refine lv_iload_n hx hb dX9_isStarThere_38 rfl (lv_at hl 2 rfl) ?_
          refine lv_imul hx hb dX9_isStarThere_39 ?_
          refine lv_icmp_ne (tgt := 47) hx hb dX9_isStarThere_40 (by decide) (fun c6 => ?_) (fun c6 => ?_)
          · have hf := (if_neg c6).symm.trans hf
            exact B47 rc8 hrc8 u3 u1 u2 u4 _ _ _ hf hP hS (lv_sub hl [0, 1, 2, 4] rfl)
          · have hf := (if_pos c6).symm.trans hf
            refine lv_iconst (v := 1) hx hb dX9_isStarThere_43 (by decide) ?_
            refine lv_goto (tgt := 48) hx hb dX9_isStarThere_44 (by decide) ?_
            exact B48 rc8 hrc8 1 u3 u1 u2 u4 _ _ _ hf hP hS (lv_sub hl [0, 1, 2, 4] rfl)
  unfold f_X9_isStarThere at hf
  refine lv_iconst (v := 0) hx hb dX9_isStarThere_0 (by decide) ?_
  refine lv_istore_n (lv' := [(3, .int 0), (0, .ref (zt_ad G 94)), (1, .int x1), (2, .int x2)]) hx hb dX9_isStarThere_1 rfl hl (by decide) rfl (fun ls hl => ?_)
  refine lv_bipush (v := 32) hx hb dX9_isStarThere_2 (by decide +kernel) ?_
  refine lv_iload_n hx hb dX9_isStarThere_4 rfl (lv_at hl 2 rfl) ?_
  refine lv_imul hx hb dX9_isStarThere_5 ?_
  refine lv_istore (lv' := [(4, .int (32 * x1)), (3, .int 0), (0, .ref (zt_ad G 94)), (1, .int x1), (2, .int x2)]) hx hb dX9_isStarThere_6 hl (by decide) rfl (fun ls hl => ?_)
  exact B8 zt_FU x1 x2 0 (32 * x1) _ _ _ hf hP hS (lv_sub hl [2, 3, 4, 1, 0] rfl)

theorem zh_X9_isOwn : yX9_isOwn.cls = RX9 ∧ yX9_isOwn.cls ≠ "java/lang/invoke/MethodHandle" ∧ yX9_isOwn.cls ≠ "java/lang/invoke/VarHandle" ∧ (parseMethodDescriptor yX9_isOwn.desc).map (fun d => d.parameters.length) = some 2 := by decide +kernel
set_option maxHeartbeats 4000000 in
set_option maxRecDepth 100000 in
theorem m_X9_isOwn (l : Launch) (G : zt_G) {σ : zt_St} {x1 : Int32} {x2 : Int32} {r : Int32} (hf : f_X9_isOwn σ x1 x2 = some r) : zt_Mi l G yX9_isOwn wsX9_isOwn 3 65 [.ref (zt_ad G 94), .int x1, .int x2] σ r σ := by
  refine Met.ofW (cc := cX9_isOwn) (maxL := 5) (ret := (some .boolean)) (by decide) rfl ?_
  intro p e s m args below meth c s₁ B hml hv
  obtain ⟨rfl, hBB⟩ := hv
  have hE := zt_B.env hBB; have hK := hE.2.1; have hP := hBB.2.1
  have hx := B.exec; have hb := B.bytes; have hr := B.returns; have hts := atoms_spec (ws := wsX9_isOwn) B.pre
  have hown : s.vm.findClass RX9 = some m.cls := findClass_of_methodNamed B.named
  have hlocks := B.notSynchronized
  have hS : va_S (zt_A G) s.heap s.heap [] := va_S.rf
  have hl := lv_entry ([.ref (zt_ad G 94), .int x1, .int x2]) (n := 5) (Nat.le_of_ble_eq_true rfl)
  rw [lg_entry_eq]
  generalize (lg_sl ([.ref (zt_ad G 94), .int x1, .int x2]) ++ List.replicate (5 - (lg_sl ([.ref (zt_ad G 94), .int x1, .int x2])).length) Slot.unset).toArray = ls at hl ⊢
  have hl : lv_has ls 5 [(0, .ref (zt_ad G 94)), (1, .int x1), (2, .int x2)] := hl
  show W p l e (zt_R 3 65) s m ([.ref (zt_ad G 94), .int x1, .int x2] : List Value).toArray below meth c s.heap [] 0 0 (MQ below (zt_Ci G r σ) ([.ref (zt_ad G 94), .int x1, .int x2] : List Value).toArray s 0 0 (zt_A G)) (F0 m 0 ls [])
  have fl42 := hts (.fieldLink RX9 42 "ZoneTreeModel" "many" "[I") (List.mem_cons_of_mem _ (List.mem_append_left _ (List.mem_of_getElem? (i := 0) rfl)))
  have fl45 := hts (.fieldLink RX9 45 "ZoneTreeModel" "name" "[I") (List.mem_cons_of_mem _ (List.mem_append_left _ (List.mem_of_getElem? (i := 2) rfl)))
  have fl48 := hts (.fieldLink RX9 48 "ZoneTreeModel" "sort" "[I") (List.mem_cons_of_mem _ (List.mem_append_left _ (List.mem_of_getElem? (i := 1) rfl)))
  have inX9 : ∀ w ∈ wsX90, w ∈ wsX9_isOwn := fun w h => (List.mem_cons_of_mem _ (List.mem_append_right _ h))
  have B69 : ∀ (rc8 : Int32 → Int32 → Int32 → Int32 → Option (Int32)) (hrc8 : ∀ (u1 : Int32) (u2 : Int32) (u3 : Int32) (u4 : Int32) (H : Heap) (locs : List Loc) (ls : Array Slot), rc8 u1 u2 u3 u4 = some r → va_P (zt_D G) vwCl (zt_ww G σ) H → va_S (zt_A G) s.heap H locs → lv_has ls 5 [(0, .ref (zt_ad G 94)), (1, .int u1), (2, .int u2), (3, .int u3), (4, .int u4)] → W p l e (zt_R 3 65) s m ([.ref (zt_ad G 94), .int x1, .int x2] : List Value).toArray below meth c H locs 0 0 (MQ below (zt_Ci G r σ) ([.ref (zt_ad G 94), .int x1, .int x2] : List Value).toArray s 0 0 (zt_A G)) (F0 m 8 ls [])), ∀ (y0 : Int32) (y1 : Int32) (u1 : Int32) (u2 : Int32) (u4 : Int32) (H : Heap) (locs : List Loc) (ls : Array Slot), f_X9_isOwn_69 σ rc8 y0 y1 u1 u2 u4 = some r → va_P (zt_D G) vwCl (zt_ww G σ) H → va_S (zt_A G) s.heap H locs → lv_has ls 5 [(0, .ref (zt_ad G 94)), (1, .int u1), (2, .int u2), (4, .int u4)] → W p l e (zt_R 3 65) s m ([.ref (zt_ad G 94), .int x1, .int x2] : List Value).toArray below meth c H locs 0 0 (MQ below (zt_Ci G r σ) ([.ref (zt_ad G 94), .int x1, .int x2] : List Value).toArray s 0 0 (zt_A G)) (F0 m 69 ls [.int y0, .int y1]) := by
    intro rc8 hrc8 y0 y1 u1 u2 u4 H locs ls hf hP hS hl
    unfold f_X9_isOwn_69 at hf
    refine lv_iand hx hb dX9_isOwn_69 ?_
    refine lv_istore_n (lv' := [(3, .int (y1 &&& y0)), (0, .ref (zt_ad G 94)), (1, .int u1), (2, .int u2), (4, .int u4)]) hx hb dX9_isOwn_70 rfl hl (by decide) rfl (fun ls hl => ?_)
    refine lv_iinc (v := (u4 + 1)) (lv' := [(4, .int (u4 + 1)), (3, .int (y1 &&& y0)), (0, .ref (zt_ad G 94)), (1, .int u1), (2, .int u2)]) hx hb dX9_isOwn_71 hl (k := 4) rfl rfl (by decide) rfl (fun ls hl => ?_)
    refine lv_goto (tgt := 8) hx hb dX9_isOwn_74 (by decide) ?_
    exact hrc8 u1 u2 (y1 &&& y0) (u4 + 1) _ _ _ hf hP hS (lv_sub hl [2, 3, 4, 1, 0] rfl)
  have B64 : ∀ (rc8 : Int32 → Int32 → Int32 → Int32 → Option (Int32)) (hrc8 : ∀ (u1 : Int32) (u2 : Int32) (u3 : Int32) (u4 : Int32) (H : Heap) (locs : List Loc) (ls : Array Slot), rc8 u1 u2 u3 u4 = some r → va_P (zt_D G) vwCl (zt_ww G σ) H → va_S (zt_A G) s.heap H locs → lv_has ls 5 [(0, .ref (zt_ad G 94)), (1, .int u1), (2, .int u2), (3, .int u3), (4, .int u4)] → W p l e (zt_R 3 65) s m ([.ref (zt_ad G 94), .int x1, .int x2] : List Value).toArray below meth c H locs 0 0 (MQ below (zt_Ci G r σ) ([.ref (zt_ad G 94), .int x1, .int x2] : List Value).toArray s 0 0 (zt_A G)) (F0 m 8 ls [])), ∀ (y0 : Int32) (u1 : Int32) (u2 : Int32) (u4 : Int32) (H : Heap) (locs : List Loc) (ls : Array Slot), f_X9_isOwn_64 σ rc8 y0 u1 u2 u4 = some r → va_P (zt_D G) vwCl (zt_ww G σ) H → va_S (zt_A G) s.heap H locs → lv_has ls 5 [(0, .ref (zt_ad G 94)), (1, .int u1), (2, .int u2), (4, .int u4)] → W p l e (zt_R 3 65) s m ([.ref (zt_ad G 94), .int x1, .int x2] : List Value).toArray below meth c H locs 0 0 (MQ below (zt_Ci G r σ) ([.ref (zt_ad G 94), .int x1, .int x2] : List Value).toArray s 0 0 (zt_A G)) (F0 m 64 ls [.int y0]) := by
    intro rc8 hrc8 y0 u1 u2 u4 H locs ls hf hP hS hl
    unfold f_X9_isOwn_64 at hf
    refine lv_iconst (v := 1) hx hb dX9_isOwn_64 (by decide) ?_
    refine lv_goto (tgt := 69) hx hb dX9_isOwn_65 (by decide) ?_
    exact B69 rc8 hrc8 1 y0 u1 u2 u4 _ _ _ hf hP hS (lv_sub hl [0, 1, 2, 3] rfl)
  have B8 : ∀ (n : Nat), ∀ (u1 : Int32) (u2 : Int32) (u3 : Int32) (u4 : Int32) (H : Heap) (locs : List Loc) (ls : Array Slot), f_X9_isOwn_8 σ n u1 u2 u3 u4 = some r → va_P (zt_D G) vwCl (zt_ww G σ) H → va_S (zt_A G) s.heap H locs → lv_has ls 5 [(0, .ref (zt_ad G 94)), (1, .int u1), (2, .int u2), (3, .int u3), (4, .int u4)] → W p l e (zt_R 3 65) s m ([.ref (zt_ad G 94), .int x1, .int x2] : List Value).toArray below meth c H locs 0 0 (MQ below (zt_Ci G r σ) ([.ref (zt_ad G 94), .int x1, .int x2] : List Value).toArray s 0 0 (zt_A G)) (F0 m 8 ls []) := by
    intro n
    induction n with
    | zero => intro u1 u2 u3 u4 H locs ls hf; exact nomatch hf
    | succ n hrc8 =>
      intro u1 u2 u3 u4 H locs ls hf hP hS hl
      generalize hrcg : f_X9_isOwn_8 σ n = rc8 at hrc8
      have hf : f_X9_isOwn_8b σ rc8 u1 u2 u3 u4 = some r := by rw [← hrcg]; exact hf
      unfold f_X9_isOwn_8b at hf
      refine lv_iload hx hb dX9_isOwn_8 (lv_at hl 4 rfl) ?_
      refine lv_bipush (v := 32) hx hb dX9_isOwn_10 (by decide +kernel) ?_
      refine lv_iload_n hx hb dX9_isOwn_12 rfl (lv_at hl 1 rfl) ?_
      refine lv_imul hx hb dX9_isOwn_13 ?_
      refine lv_aload_n hx hb dX9_isOwn_14 rfl (lv_at hl 0 rfl) ?_
      refine va_get (D := zt_D G) (ci := 8) (v := .ref (zt_ad G 103)) (C := RX9) (T := TX9) (N := 37) hx hb hts inX9 hown hK hP 94 (zt_a8 (rfl : zt_kd 94 = 8)) rfl 12 (by decide) fl42 (fun _ h9 => h9) rfl dX9_isOwn_15 ?_
      refine lv_iload_n hx hb dX9_isOwn_18 rfl (lv_at hl 1 rfl) ?_
      obtain ⟨g1, hf⟩ := zt_gd_some hf
      refine va_iald hx hb hK hP 103 0 zt_a_103 rfl (zt_gI_in g1) dX9_isOwn_19 ?_
      refine lv_iadd hx hb dX9_isOwn_20 ?_
      refine lv_icmp_ge (tgt := 77) hx hb dX9_isOwn_21 (by decide) (fun c2 => ?_) (fun c2 => ?_)
      · have hf := (if_pos c2).symm.trans hf
        refine lv_iload_n hx hb dX9_isOwn_77 rfl (lv_at hl 3 rfl) ?_
        obtain ⟨g3, hf⟩ := zt_gd_some hf
        exact W.zret hx hb hr (zt_bn g3).1 (fun t ht hW => ⟨⟨_, _, rfl, ⟨Option.some.inj hf, rfl⟩, zt_go hE hP hS zt_id ht hW⟩, hS.F ht⟩) hS.2.2 dX9_isOwn_78
      · have hf := (if_neg c2).symm.trans hf
        refine lv_iload_n hx hb dX9_isOwn_24 rfl (lv_at hl 3 rfl) ?_
        refine lv_aload_n hx hb dX9_isOwn_25 rfl (lv_at hl 0 rfl) ?_
        refine va_get (D := zt_D G) (ci := 8) (v := .ref (zt_ad G 105)) (C := RX9) (T := TX9) (N := 37) hx hb hts inX9 hown hK hP 94 (zt_a8 (rfl : zt_kd 94 = 8)) rfl 14 (by decide) fl48 (fun _ h9 => h9) rfl dX9_isOwn_26 ?_
        refine lv_iload hx hb dX9_isOwn_29 (lv_at hl 4 rfl) ?_
        obtain ⟨g4, hf⟩ := zt_gd_some hf
        refine va_iald hx hb hK hP 105 0 zt_a_105 rfl (zt_gI_in g4) dX9_isOwn_31 ?_
        refine lv_iconst (v := 3) hx hb dX9_isOwn_32 (by decide) ?_
        refine lv_icmp_ne (tgt := 64) hx hb dX9_isOwn_33 (by decide) (fun c5 => ?_) (fun c5 => ?_)
        · have hf := (if_neg c5).symm.trans hf
          exact B64 rc8 hrc8 u3 u1 u2 u4 _ _ _ hf hP hS (lv_sub hl [0, 1, 2, 4] rfl)
        · have hf := (if_pos c5).symm.trans hf
          refine lv_iload_n hx hb dX9_isOwn_36 rfl (lv_at hl 2 rfl) ?_
          obtain ⟨v6, hvv6, hf⟩ := zt_bd_some hf
          refine va_calli (va_runS (As := [.int u2]) (rest := [.int u3]) ⟨hx, hb, hml, hown, hts⟩ (m_X9_base l G (σ := σ) hvv6) (va_cwS 1 hts gX9_isOwn_X9_base rfl rfl rfl zh_X9_base ⟨Nat.le_of_ble_eq_true rfl, Nat.le_of_ble_eq_true rfl⟩) ⟨zt_blind, fun U hU hW => ⟨rfl, zt_go hE hP hS zt_id hU hW⟩⟩ rfl rfl hl.1 rfl (lv_room (Nat.le_of_ble_eq_true rfl)) dX9_isOwn_37 ⟨Nat.zero_le _, Nat.zero_le _⟩) hS (fun _ _ h => h) (fun _ h => h) (fun r u t H locs ht hvm hw hB _ _ hS => ?_)
          rw [hw.1]; have hB : zt_B G u t := hB; rw [hw.2] at hB; have hP := zt_B.P hB ht
          refine lv_aload_n hx hb dX9_isOwn_40 rfl (lv_at hl 0 rfl) ?_
          refine va_get (D := zt_D G) (ci := 8) (v := .ref (zt_ad G 104)) (C := RX9) (T := TX9) (N := 37) hx hb hts inX9 hown hK hP 94 (zt_a8 (rfl : zt_kd 94 = 8)) rfl 13 (by decide) fl45 (fun _ h9 => h9) rfl dX9_isOwn_41 ?_
          refine lv_iload hx hb dX9_isOwn_44 (lv_at hl 4 rfl) ?_
          obtain ⟨g8, hf⟩ := zt_gd_some hf
          refine va_iald hx hb hK hP 104 0 zt_a_104 rfl (zt_gI_in g8) dX9_isOwn_46 ?_
          obtain ⟨v9, hvv9, hf⟩ := zt_bd_some hf
          refine va_calli (va_runS (As := [.int v6, .int (σ 104 u4.toNatClampNeg)]) (rest := [.int u3]) ⟨hx, hb, hml, hown, hts⟩ (m_X9_isUnder l G (σ := σ) hvv9) (va_cwS 2 hts gX9_isOwn_X9_isUnder rfl rfl rfl zh_X9_isUnder ⟨Nat.le_of_ble_eq_true rfl, Nat.le_of_ble_eq_true rfl⟩) ⟨zt_blind, fun U hU hW => ⟨rfl, zt_go hE hP hS zt_id hU hW⟩⟩ rfl rfl hl.1 rfl (lv_room (Nat.le_of_ble_eq_true rfl)) dX9_isOwn_47 ⟨Nat.zero_le _, Nat.zero_le _⟩) hS (fun _ _ h => h) (fun _ h => h) (fun r u t H locs ht hvm hw hB _ _ hS => ?_)
          rw [hw.1]; have hB : zt_B G u t := hB; rw [hw.2] at hB; have hP := zt_B.P hB ht
          refine lv_if_eq (tgt := 64) hx hb dX9_isOwn_50 (by decide) (fun c11 => ?_) (fun c11 => ?_)
          · have hf := (if_pos c11).symm.trans hf
            exact B64 rc8 hrc8 u3 u1 u2 u4 _ _ _ hf hP hS (lv_sub hl [0, 1, 2, 4] rfl)
          · have hf := (if_neg c11).symm.trans hf
            refine lv_iload_n hx hb dX9_isOwn_53 rfl (lv_at hl 2 rfl) ?_
            refine lv_aload_n hx hb dX9_isOwn_54 rfl (lv_at hl 0 rfl) ?_
            refine va_get (D := zt_D G) (ci := 8) (v := .ref (zt_ad G 104)) (C := RX9) (T := TX9) (N := 37) hx hb hts inX9 hown hK hP 94 (zt_a8 (rfl : zt_kd 94 = 8)) rfl 13 (by decide) fl45 (fun _ h9 => h9) rfl dX9_isOwn_55 ?_
            refine lv_iload hx hb dX9_isOwn_58 (lv_at hl 4 rfl) ?_
            obtain ⟨g12, hf⟩ := zt_gd_some hf
            refine va_iald hx hb hK hP 104 0 zt_a_104 rfl (zt_gI_in g12) dX9_isOwn_60 ?_
            refine lv_icmp_ne (tgt := 68) hx hb dX9_isOwn_61 (by decide) (fun c13 => ?_) (fun c13 => ?_)
            · have hf := (if_neg c13).symm.trans hf
              refine lv_iconst (v := 0) hx hb dX9_isOwn_68 (by decide) ?_
              exact B69 rc8 hrc8 0 u3 u1 u2 u4 _ _ _ hf hP hS (lv_sub hl [0, 1, 2, 4] rfl)
            · have hf := (if_pos c13).symm.trans hf
              exact B64 rc8 hrc8 u3 u1 u2 u4 _ _ _ hf hP hS (lv_sub hl [0, 1, 2, 4] rfl)
  unfold f_X9_isOwn at hf
  refine lv_iconst (v := 1) hx hb dX9_isOwn_0 (by decide) ?_
  refine lv_istore_n (lv' := [(3, .int 1), (0, .ref (zt_ad G 94)), (1, .int x1), (2, .int x2)]) hx hb dX9_isOwn_1 rfl hl (by decide) rfl (fun ls hl => ?_)
  refine lv_bipush (v := 32) hx hb dX9_isOwn_2 (by decide +kernel) ?_
  refine lv_iload_n hx hb dX9_isOwn_4 rfl (lv_at hl 2 rfl) ?_
  refine lv_imul hx hb dX9_isOwn_5 ?_
  refine lv_istore (lv' := [(4, .int (32 * x1)), (3, .int 1), (0, .ref (zt_ad G 94)), (1, .int x1), (2, .int x2)]) hx hb dX9_isOwn_6 hl (by decide) rfl (fun ls hl => ?_)
  exact B8 zt_FU x1 x2 1 (32 * x1) _ _ _ hf hP hS (lv_sub hl [2, 3, 4, 1, 0] rfl)

theorem zh_X9_lays : yX9_lays.cls = RX9 ∧ yX9_lays.cls ≠ "java/lang/invoke/MethodHandle" ∧ yX9_lays.cls ≠ "java/lang/invoke/VarHandle" ∧ (parseMethodDescriptor yX9_lays.desc).map (fun d => d.parameters.length) = some 6 := by decide +kernel
set_option maxHeartbeats 4000000 in
set_option maxRecDepth 100000 in
theorem m_X9_lays (l : Launch) (G : zt_G) {σ : zt_St} {x1 : Int32} {x2 : Int32} {x3 : Int32} {x4 : Int32} {x5 : Int32} {x6 : Int32} {σ1 : zt_St} (hf : f_X9_lays σ x1 x2 x3 x4 x5 x6 = some σ1) : zt_Mv l G yX9_lays wsX9_lays 0 0 [.ref (zt_ad G 94), .int x1, .int x2, .int x3, .int x4, .int x5, .int x6] σ σ1 := by
  refine Met.ofW (cc := cX9_lays) (maxL := 7) (ret := none) (by decide) rfl ?_
  intro p e s m args below meth c s₁ B hml hv
  obtain ⟨rfl, hBB⟩ := hv
  have hE := zt_B.env hBB; have hK := hE.2.1; have hP := hBB.2.1
  have hx := B.exec; have hb := B.bytes; have hr := B.returns; have hts := atoms_spec (ws := wsX9_lays) B.pre
  have hown : s.vm.findClass RX9 = some m.cls := findClass_of_methodNamed B.named
  have hlocks := B.notSynchronized
  have hS : va_S (zt_A G) s.heap s.heap [] := va_S.rf
  have hl := lv_entry ([.ref (zt_ad G 94), .int x1, .int x2, .int x3, .int x4, .int x5, .int x6]) (n := 7) (Nat.le_of_ble_eq_true rfl)
  rw [lg_entry_eq]
  generalize (lg_sl ([.ref (zt_ad G 94), .int x1, .int x2, .int x3, .int x4, .int x5, .int x6]) ++ List.replicate (7 - (lg_sl ([.ref (zt_ad G 94), .int x1, .int x2, .int x3, .int x4, .int x5, .int x6])).length) Slot.unset).toArray = ls at hl ⊢
  have hl : lv_has ls 7 [(0, .ref (zt_ad G 94)), (1, .int x1), (2, .int x2), (3, .int x3), (4, .int x4), (5, .int x5), (6, .int x6)] := hl
  show W p l e (zt_R 0 0) s m ([.ref (zt_ad G 94), .int x1, .int x2, .int x3, .int x4, .int x5, .int x6] : List Value).toArray below meth c s.heap [] 0 0 (MQ below (zt_Cv G σ1) ([.ref (zt_ad G 94), .int x1, .int x2, .int x3, .int x4, .int x5, .int x6] : List Value).toArray s 0 0 (zt_A G)) (F0 m 0 ls [])
  have fl45 := hts (.fieldLink RX9 45 "ZoneTreeModel" "name" "[I") (List.mem_cons_of_mem _ (List.mem_append_left _ (List.mem_of_getElem? (i := 0) rfl)))
  have fl48 := hts (.fieldLink RX9 48 "ZoneTreeModel" "sort" "[I") (List.mem_cons_of_mem _ (List.mem_append_left _ (List.mem_of_getElem? (i := 1) rfl)))
  have fl51 := hts (.fieldLink RX9 51 "ZoneTreeModel" "number" "[I") (List.mem_cons_of_mem _ (List.mem_append_left _ (List.mem_of_getElem? (i := 2) rfl)))
  have fl54 := hts (.fieldLink RX9 54 "ZoneTreeModel" "life" "[I") (List.mem_cons_of_mem _ (List.mem_append_left _ (List.mem_of_getElem? (i := 3) rfl)))
  have inX9 : ∀ w ∈ wsX90, w ∈ wsX9_lays := fun w h => (List.mem_cons_of_mem _ (List.mem_append_right _ h))
  unfold f_X9_lays at hf
  refine lv_aload_n hx hb dX9_lays_0 rfl (lv_at hl 0 rfl) ?_
  refine va_get (D := zt_D G) (ci := 8) (v := .ref (zt_ad G 104)) (C := RX9) (T := TX9) (N := 37) hx hb hts inX9 hown hK hP 94 (zt_a8 (rfl : zt_kd 94 = 8)) rfl 13 (by decide) fl45 (fun _ h9 => h9) rfl dX9_lays_1 ?_
  refine lv_bipush (v := 32) hx hb dX9_lays_4 (by decide +kernel) ?_
  refine lv_iload_n hx hb dX9_lays_6 rfl (lv_at hl 1 rfl) ?_
  refine lv_imul hx hb dX9_lays_7 ?_
  refine lv_iload_n hx hb dX9_lays_8 rfl (lv_at hl 2 rfl) ?_
  refine lv_iadd hx hb dX9_lays_9 ?_
  refine lv_iload_n hx hb dX9_lays_10 rfl (lv_at hl 3 rfl) ?_
  obtain ⟨g1, hf⟩ := zt_gd_some hf
  obtain ⟨σ2, hσ2, hf⟩ := zt_lt_some hf
  refine va_iast hx hb hK hP (zt_apart hE.1) hS 104 0 zt_a_104 rfl (zt_gI_in g1) dX9_lays_11 (fun H locs hP _ hS => ?_)
  rw [zt_p_104, ← hσ2] at hP
  refine lv_aload_n hx hb dX9_lays_12 rfl (lv_at hl 0 rfl) ?_
  refine va_get (D := zt_D G) (ci := 8) (v := .ref (zt_ad G 105)) (C := RX9) (T := TX9) (N := 37) hx hb hts inX9 hown hK hP 94 (zt_a8 (rfl : zt_kd 94 = 8)) rfl 14 (by decide) fl48 (fun _ h9 => h9) rfl dX9_lays_13 ?_
  refine lv_bipush (v := 32) hx hb dX9_lays_16 (by decide +kernel) ?_
  refine lv_iload_n hx hb dX9_lays_18 rfl (lv_at hl 1 rfl) ?_
  refine lv_imul hx hb dX9_lays_19 ?_
  refine lv_iload_n hx hb dX9_lays_20 rfl (lv_at hl 2 rfl) ?_
  refine lv_iadd hx hb dX9_lays_21 ?_
  refine lv_iload hx hb dX9_lays_22 (lv_at hl 4 rfl) ?_
  obtain ⟨g3, hf⟩ := zt_gd_some hf
  obtain ⟨σ4, hσ4, hf⟩ := zt_lt_some hf
  refine va_iast hx hb hK hP (zt_apart hE.1) hS 105 0 zt_a_105 rfl (zt_gI_in g3) dX9_lays_24 (fun H locs hP _ hS => ?_)
  rw [zt_p_105, ← hσ4] at hP
  refine lv_aload_n hx hb dX9_lays_25 rfl (lv_at hl 0 rfl) ?_
  refine va_get (D := zt_D G) (ci := 8) (v := .ref (zt_ad G 106)) (C := RX9) (T := TX9) (N := 37) hx hb hts inX9 hown hK hP 94 (zt_a8 (rfl : zt_kd 94 = 8)) rfl 15 (by decide) fl51 (fun _ h9 => h9) rfl dX9_lays_26 ?_
  refine lv_bipush (v := 32) hx hb dX9_lays_29 (by decide +kernel) ?_
  refine lv_iload_n hx hb dX9_lays_31 rfl (lv_at hl 1 rfl) ?_
  refine lv_imul hx hb dX9_lays_32 ?_
  refine lv_iload_n hx hb dX9_lays_33 rfl (lv_at hl 2 rfl) ?_
  refine lv_iadd hx hb dX9_lays_34 ?_
  refine lv_iload hx hb dX9_lays_35 (lv_at hl 5 rfl) ?_
  obtain ⟨g5, hf⟩ := zt_gd_some hf
  obtain ⟨σ6, hσ6, hf⟩ := zt_lt_some hf
  refine va_iast hx hb hK hP (zt_apart hE.1) hS 106 0 zt_a_106 rfl (zt_gI_in g5) dX9_lays_37 (fun H locs hP _ hS => ?_)
  rw [zt_p_106, ← hσ6] at hP
  refine lv_aload_n hx hb dX9_lays_38 rfl (lv_at hl 0 rfl) ?_
  refine va_get (D := zt_D G) (ci := 8) (v := .ref (zt_ad G 107)) (C := RX9) (T := TX9) (N := 37) hx hb hts inX9 hown hK hP 94 (zt_a8 (rfl : zt_kd 94 = 8)) rfl 16 (by decide) fl54 (fun _ h9 => h9) rfl dX9_lays_39 ?_
  refine lv_bipush (v := 32) hx hb dX9_lays_42 (by decide +kernel) ?_
  refine lv_iload_n hx hb dX9_lays_44 rfl (lv_at hl 1 rfl) ?_
  refine lv_imul hx hb dX9_lays_45 ?_
  refine lv_iload_n hx hb dX9_lays_46 rfl (lv_at hl 2 rfl) ?_
  refine lv_iadd hx hb dX9_lays_47 ?_
  refine lv_iload hx hb dX9_lays_48 (lv_at hl 6 rfl) ?_
  obtain ⟨g7, hf⟩ := zt_gd_some hf
  obtain ⟨σ8, hσ8, hf⟩ := zt_lt_some hf
  refine va_iast hx hb hK hP (zt_apart hE.1) hS 107 0 zt_a_107 rfl (zt_gI_in g7) dX9_lays_50 (fun H locs hP _ hS => ?_)
  rw [zt_p_107, ← hσ8] at hP
  exact W.vret hx hb hr (fun t ht hW => ⟨⟨_, rfl, (Option.some.inj hf), zt_go hE hP hS zt_id ht hW⟩, hS.F ht⟩) hS.2.2 dX9_lays_51

theorem zh_X9_copies : yX9_copies.cls = RX9 ∧ yX9_copies.cls ≠ "java/lang/invoke/MethodHandle" ∧ yX9_copies.cls ≠ "java/lang/invoke/VarHandle" ∧ (parseMethodDescriptor yX9_copies.desc).map (fun d => d.parameters.length) = some 2 := by decide +kernel
set_option maxHeartbeats 4000000 in
set_option maxRecDepth 100000 in
theorem m_X9_copies (l : Launch) (G : zt_G) {σ : zt_St} {x1 : Int32} {x2 : Int32} {σ1 : zt_St} (hf : f_X9_copies σ x1 x2 = some σ1) : zt_Mv l G yX9_copies wsX9_copies 1 26 [.ref (zt_ad G 94), .int x1, .int x2] σ σ1 := by
  refine Met.ofW (cc := cX9_copies) (maxL := 4) (ret := none) (by decide) rfl ?_
  intro p e s m args below meth c s₁ B hml hv
  obtain ⟨rfl, hBB⟩ := hv
  have hE := zt_B.env hBB; have hK := hE.2.1; have hP := hBB.2.1
  have hx := B.exec; have hb := B.bytes; have hr := B.returns; have hts := atoms_spec (ws := wsX9_copies) B.pre
  have hown : s.vm.findClass RX9 = some m.cls := findClass_of_methodNamed B.named
  have hlocks := B.notSynchronized
  have hS : va_S (zt_A G) s.heap s.heap [] := va_S.rf
  have hl := lv_entry ([.ref (zt_ad G 94), .int x1, .int x2]) (n := 4) (Nat.le_of_ble_eq_true rfl)
  rw [lg_entry_eq]
  generalize (lg_sl ([.ref (zt_ad G 94), .int x1, .int x2]) ++ List.replicate (4 - (lg_sl ([.ref (zt_ad G 94), .int x1, .int x2])).length) Slot.unset).toArray = ls at hl ⊢
  have hl : lv_has ls 4 [(0, .ref (zt_ad G 94)), (1, .int x1), (2, .int x2)] := hl
  show W p l e (zt_R 1 26) s m ([.ref (zt_ad G 94), .int x1, .int x2] : List Value).toArray below meth c s.heap [] 0 0 (MQ below (zt_Cv G σ1) ([.ref (zt_ad G 94), .int x1, .int x2] : List Value).toArray s 0 0 (zt_A G)) (F0 m 0 ls [])
  have fl42 := hts (.fieldLink RX9 42 "ZoneTreeModel" "many" "[I") (List.mem_cons_of_mem _ (List.mem_append_left _ (List.mem_of_getElem? (i := 0) rfl)))
  have fl45 := hts (.fieldLink RX9 45 "ZoneTreeModel" "name" "[I") (List.mem_cons_of_mem _ (List.mem_append_left _ (List.mem_of_getElem? (i := 1) rfl)))
  have fl48 := hts (.fieldLink RX9 48 "ZoneTreeModel" "sort" "[I") (List.mem_cons_of_mem _ (List.mem_append_left _ (List.mem_of_getElem? (i := 2) rfl)))
  have fl51 := hts (.fieldLink RX9 51 "ZoneTreeModel" "number" "[I") (List.mem_cons_of_mem _ (List.mem_append_left _ (List.mem_of_getElem? (i := 3) rfl)))
  have fl54 := hts (.fieldLink RX9 54 "ZoneTreeModel" "life" "[I") (List.mem_cons_of_mem _ (List.mem_append_left _ (List.mem_of_getElem? (i := 4) rfl)))
  have inX9 : ∀ w ∈ wsX90, w ∈ wsX9_copies := fun w h => (List.mem_cons_of_mem _ (List.mem_append_right _ h))
  have B14 : ∀ (n : Nat), ∀ (σ : zt_St) (u1 : Int32) (u2 : Int32) (u3 : Int32) (H : Heap) (locs : List Loc) (ls : Array Slot), f_X9_copies_14 n σ u1 u2 u3 = some σ1 → va_P (zt_D G) vwCl (zt_ww G σ) H → va_S (zt_A G) s.heap H locs → lv_has ls 4 [(0, .ref (zt_ad G 94)), (1, .int u1), (2, .int u2), (3, .int u3)] → W p l e (zt_R 1 26) s m ([.ref (zt_ad G 94), .int x1, .int x2] : List Value).toArray below meth c H locs 0 0 (MQ below (zt_Cv G σ1) ([.ref (zt_ad G 94), .int x1, .int x2] : List Value).toArray s 0 0 (zt_A G)) (F0 m 14 ls []) := by
    intro n
    induction n with
    | zero => intro σ u1 u2 u3 H locs ls hf; exact nomatch hf
    | succ n hrc14 =>
      intro σ u1 u2 u3 H locs ls hf hP hS hl
      generalize hrcg : f_X9_copies_14 n = rc14 at hrc14
      have hf : f_X9_copies_14b rc14 σ u1 u2 u3 = some σ1 := by rw [← hrcg]; exact hf
      unfold f_X9_copies_14b at hf
      refine lv_iload_n hx hb dX9_copies_14 rfl (lv_at hl 3 rfl) ?_
      refine lv_aload_n hx hb dX9_copies_15 rfl (lv_at hl 0 rfl) ?_
      refine va_get (D := zt_D G) (ci := 8) (v := .ref (zt_ad G 103)) (C := RX9) (T := TX9) (N := 37) hx hb hts inX9 hown hK hP 94 (zt_a8 (rfl : zt_kd 94 = 8)) rfl 12 (by decide) fl42 (fun _ h9 => h9) rfl dX9_copies_16 ?_
      refine lv_iload_n hx hb dX9_copies_19 rfl (lv_at hl 1 rfl) ?_
      obtain ⟨g4, hf⟩ := zt_gd_some hf
      refine va_iald hx hb hK hP 103 0 zt_a_103 rfl (zt_gI_in g4) dX9_copies_20 ?_
      refine lv_icmp_ge (tgt := 80) hx hb dX9_copies_21 (by decide) (fun c5 => ?_) (fun c5 => ?_)
      · have hf := (if_pos c5).symm.trans hf
        exact W.vret hx hb hr (fun t ht hW => ⟨⟨_, rfl, (Option.some.inj hf), zt_go hE hP hS zt_id ht hW⟩, hS.F ht⟩) hS.2.2 dX9_copies_80
      · have hf := (if_neg c5).symm.trans hf
        refine lv_aload_n hx hb dX9_copies_24 rfl (lv_at hl 0 rfl) ?_
        refine lv_iload_n hx hb dX9_copies_25 rfl (lv_at hl 2 rfl) ?_
        refine lv_iload_n hx hb dX9_copies_26 rfl (lv_at hl 3 rfl) ?_
        refine lv_aload_n hx hb dX9_copies_27 rfl (lv_at hl 0 rfl) ?_
        refine va_get (D := zt_D G) (ci := 8) (v := .ref (zt_ad G 104)) (C := RX9) (T := TX9) (N := 37) hx hb hts inX9 hown hK hP 94 (zt_a8 (rfl : zt_kd 94 = 8)) rfl 13 (by decide) fl45 (fun _ h9 => h9) rfl dX9_copies_28 ?_
        refine lv_bipush (v := 32) hx hb dX9_copies_31 (by decide +kernel) ?_
        refine lv_iload_n hx hb dX9_copies_33 rfl (lv_at hl 1 rfl) ?_
        refine lv_imul hx hb dX9_copies_34 ?_
        refine lv_iload_n hx hb dX9_copies_35 rfl (lv_at hl 3 rfl) ?_
        refine lv_iadd hx hb dX9_copies_36 ?_
        obtain ⟨g6, hf⟩ := zt_gd_some hf
        refine va_iald hx hb hK hP 104 0 zt_a_104 rfl (zt_gI_in g6) dX9_copies_37 ?_
        refine lv_aload_n hx hb dX9_copies_38 rfl (lv_at hl 0 rfl) ?_
        refine va_get (D := zt_D G) (ci := 8) (v := .ref (zt_ad G 105)) (C := RX9) (T := TX9) (N := 37) hx hb hts inX9 hown hK hP 94 (zt_a8 (rfl : zt_kd 94 = 8)) rfl 14 (by decide) fl48 (fun _ h9 => h9) rfl dX9_copies_39 ?_
        refine lv_bipush (v := 32) hx hb dX9_copies_42 (by decide +kernel) ?_
        refine lv_iload_n hx hb dX9_copies_44 rfl (lv_at hl 1 rfl) ?_
        refine lv_imul hx hb dX9_copies_45 ?_
        refine lv_iload_n hx hb dX9_copies_46 rfl (lv_at hl 3 rfl) ?_
        refine lv_iadd hx hb dX9_copies_47 ?_
        obtain ⟨g7, hf⟩ := zt_gd_some hf
        refine va_iald hx hb hK hP 105 0 zt_a_105 rfl (zt_gI_in g7) dX9_copies_48 ?_
        refine lv_aload_n hx hb dX9_copies_49 rfl (lv_at hl 0 rfl) ?_
        refine va_get (D := zt_D G) (ci := 8) (v := .ref (zt_ad G 106)) (C := RX9) (T := TX9) (N := 37) hx hb hts inX9 hown hK hP 94 (zt_a8 (rfl : zt_kd 94 = 8)) rfl 15 (by decide) fl51 (fun _ h9 => h9) rfl dX9_copies_50 ?_
        refine lv_bipush (v := 32) hx hb dX9_copies_53 (by decide +kernel) ?_
        refine lv_iload_n hx hb dX9_copies_55 rfl (lv_at hl 1 rfl) ?_
        refine lv_imul hx hb dX9_copies_56 ?_
        refine lv_iload_n hx hb dX9_copies_57 rfl (lv_at hl 3 rfl) ?_
        refine lv_iadd hx hb dX9_copies_58 ?_
        obtain ⟨g8, hf⟩ := zt_gd_some hf
        refine va_iald hx hb hK hP 106 0 zt_a_106 rfl (zt_gI_in g8) dX9_copies_59 ?_
        refine lv_aload_n hx hb dX9_copies_60 rfl (lv_at hl 0 rfl) ?_
        refine va_get (D := zt_D G) (ci := 8) (v := .ref (zt_ad G 107)) (C := RX9) (T := TX9) (N := 37) hx hb hts inX9 hown hK hP 94 (zt_a8 (rfl : zt_kd 94 = 8)) rfl 16 (by decide) fl54 (fun _ h9 => h9) rfl dX9_copies_61 ?_
        refine lv_bipush (v := 32) hx hb dX9_copies_64 (by decide +kernel) ?_
        refine lv_iload_n hx hb dX9_copies_66 rfl (lv_at hl 1 rfl) ?_
        refine lv_imul hx hb dX9_copies_67 ?_
        refine lv_iload_n hx hb dX9_copies_68 rfl (lv_at hl 3 rfl) ?_
        refine lv_iadd hx hb dX9_copies_69 ?_
        obtain ⟨g9, hf⟩ := zt_gd_some hf
        refine va_iald hx hb hK hP 107 0 zt_a_107 rfl (zt_gI_in g9) dX9_copies_70 ?_
        obtain ⟨σ11, hvv10, hf⟩ := zt_bd_some hf
        refine va_callv (va_runV (As := [.int u2, .int u3, .int (σ 104 ((32 * u1) + u3).toNatClampNeg), .int (σ 105 ((32 * u1) + u3).toNatClampNeg), .int (σ 106 ((32 * u1) + u3).toNatClampNeg), .int (σ 107 ((32 * u1) + u3).toNatClampNeg)]) (rest := []) ⟨hx, hb, hml, hown, hts⟩ (m_X9_lays l G (σ := σ) hvv10) (cwV 6 hts gX9_copies_X9_lays rfl rfl rfl zh_X9_lays ⟨Nat.le_of_ble_eq_true rfl, Nat.le_of_ble_eq_true rfl⟩) ⟨zt_blind, va_recv hK hP (ci := 8) (q0 := 94) rfl (zt_a8 (rfl : zt_kd 94 = 8)), fun U hU hW => ⟨rfl, zt_go hE hP hS zt_id hU hW⟩⟩ rfl rfl hl.1 rfl (lv_room (Nat.le_of_ble_eq_true rfl)) dX9_copies_71 ⟨Nat.zero_le _, Nat.zero_le _⟩) hS (fun _ _ h => h) (fun _ h => h) (fun u t H locs ht hvm hw hB _ _ hS => ?_)
        have hB : zt_B G u t := hB; rw [hw] at hB; have hP := zt_B.P hB ht
        refine lv_iinc (v := (u3 + 1)) (lv' := [(3, .int (u3 + 1)), (0, .ref (zt_ad G 94)), (1, .int u1), (2, .int u2)]) hx hb dX9_copies_74 hl (k := 3) rfl rfl (by decide) rfl (fun ls hl => ?_)
        refine lv_goto (tgt := 14) hx hb dX9_copies_77 (by decide) ?_
        exact hrc14 σ11 u1 u2 (u3 + 1) _ _ _ hf hP hS (lv_sub hl [1, 2, 3, 0] rfl)
  unfold f_X9_copies at hf
  refine lv_aload_n hx hb dX9_copies_0 rfl (lv_at hl 0 rfl) ?_
  refine va_get (D := zt_D G) (ci := 8) (v := .ref (zt_ad G 103)) (C := RX9) (T := TX9) (N := 37) hx hb hts inX9 hown hK hP 94 (zt_a8 (rfl : zt_kd 94 = 8)) rfl 12 (by decide) fl42 (fun _ h9 => h9) rfl dX9_copies_1 ?_
  refine lv_iload_n hx hb dX9_copies_4 rfl (lv_at hl 2 rfl) ?_
  refine lv_aload_n hx hb dX9_copies_5 rfl (lv_at hl 0 rfl) ?_
  refine va_get (D := zt_D G) (ci := 8) (v := .ref (zt_ad G 103)) (C := RX9) (T := TX9) (N := 37) hx hb hts inX9 hown hK hP 94 (zt_a8 (rfl : zt_kd 94 = 8)) rfl 12 (by decide) fl42 (fun _ h9 => h9) rfl dX9_copies_6 ?_
  refine lv_iload_n hx hb dX9_copies_9 rfl (lv_at hl 1 rfl) ?_
  obtain ⟨g1, hf⟩ := zt_gd_some hf
  refine va_iald hx hb hK hP 103 0 zt_a_103 rfl (zt_gI_in g1) dX9_copies_10 ?_
  obtain ⟨g2, hf⟩ := zt_gd_some hf
  obtain ⟨σ3, hσ3, hf⟩ := zt_lt_some hf
  refine va_iast hx hb hK hP (zt_apart hE.1) hS 103 0 zt_a_103 rfl (zt_gI_in g2) dX9_copies_11 (fun H locs hP _ hS => ?_)
  rw [zt_p_103, ← hσ3] at hP
  refine lv_iconst (v := 0) hx hb dX9_copies_12 (by decide) ?_
  refine lv_istore_n (lv' := [(3, .int 0), (0, .ref (zt_ad G 94)), (1, .int x1), (2, .int x2)]) hx hb dX9_copies_13 rfl hl (by decide) rfl (fun ls hl => ?_)
  exact B14 zt_FU σ3 x1 x2 0 _ _ _ hf hP hS (lv_sub hl [1, 2, 3, 0] rfl)

theorem zh_X9_fitsAt : yX9_fitsAt.cls = RX9 ∧ yX9_fitsAt.cls ≠ "java/lang/invoke/MethodHandle" ∧ yX9_fitsAt.cls ≠ "java/lang/invoke/VarHandle" ∧ (parseMethodDescriptor yX9_fitsAt.desc).map (fun d => d.parameters.length) = some 2 := by decide +kernel
set_option maxHeartbeats 4000000 in
set_option maxRecDepth 100000 in
theorem m_X9_fitsAt (l : Launch) (G : zt_G) {σ : zt_St} {x1 : Int32} {x2 : Int32} {r : Int32} (hf : f_X9_fitsAt σ x1 x2 = some r) : zt_Mi l G yX9_fitsAt wsX9_fitsAt 3 65 [.ref (zt_ad G 94), .int x1, .int x2] σ r σ := by
  refine Met.ofW (cc := cX9_fitsAt) (maxL := 7) (ret := (some .boolean)) (by decide) rfl ?_
  intro p e s m args below meth c s₁ B hml hv
  obtain ⟨rfl, hBB⟩ := hv
  have hE := zt_B.env hBB; have hK := hE.2.1; have hP := hBB.2.1
  have hx := B.exec; have hb := B.bytes; have hr := B.returns; have hts := atoms_spec (ws := wsX9_fitsAt) B.pre
  have hown : s.vm.findClass RX9 = some m.cls := findClass_of_methodNamed B.named
  have hlocks := B.notSynchronized
  have hS : va_S (zt_A G) s.heap s.heap [] := va_S.rf
  have hl := lv_entry ([.ref (zt_ad G 94), .int x1, .int x2]) (n := 7) (Nat.le_of_ble_eq_true rfl)
  rw [lg_entry_eq]
  generalize (lg_sl ([.ref (zt_ad G 94), .int x1, .int x2]) ++ List.replicate (7 - (lg_sl ([.ref (zt_ad G 94), .int x1, .int x2])).length) Slot.unset).toArray = ls at hl ⊢
  have hl : lv_has ls 7 [(0, .ref (zt_ad G 94)), (1, .int x1), (2, .int x2)] := hl
  show W p l e (zt_R 3 65) s m ([.ref (zt_ad G 94), .int x1, .int x2] : List Value).toArray below meth c s.heap [] 0 0 (MQ below (zt_Ci G r σ) ([.ref (zt_ad G 94), .int x1, .int x2] : List Value).toArray s 0 0 (zt_A G)) (F0 m 0 ls [])
  have fl7 := hts (.fieldLink RX9 7 "ZoneTreeModel" "zones" "I") (List.mem_cons_of_mem _ (List.mem_append_left _ (List.mem_append_left _ (List.mem_of_getElem? (i := 5) rfl))))
  have fl13 := hts (.fieldLink RX9 13 "ZoneTreeModel" "apex" "[I") (List.mem_cons_of_mem _ (List.mem_append_left _ (List.mem_append_left _ (List.mem_of_getElem? (i := 1) rfl))))
  have fl42 := hts (.fieldLink RX9 42 "ZoneTreeModel" "many" "[I") (List.mem_cons_of_mem _ (List.mem_append_left _ (List.mem_append_left _ (List.mem_of_getElem? (i := 2) rfl))))
  have fl45 := hts (.fieldLink RX9 45 "ZoneTreeModel" "name" "[I") (List.mem_cons_of_mem _ (List.mem_append_left _ (List.mem_append_left _ (List.mem_of_getElem? (i := 0) rfl))))
  have fl48 := hts (.fieldLink RX9 48 "ZoneTreeModel" "sort" "[I") (List.mem_cons_of_mem _ (List.mem_append_left _ (List.mem_append_left _ (List.mem_of_getElem? (i := 3) rfl))))
  have fl51 := hts (.fieldLink RX9 51 "ZoneTreeModel" "number" "[I") (List.mem_cons_of_mem _ (List.mem_append_left _ (List.mem_append_left _ (List.mem_of_getElem? (i := 4) rfl))))
  have inX9 : ∀ w ∈ wsX90, w ∈ wsX9_fitsAt := fun w h => (List.mem_cons_of_mem _ (List.mem_append_right _ h))
  have B282 : ∀ (H : Heap) (locs : List Loc) (ls : Array Slot), f_X9_fitsAt_282 σ = some r → va_P (zt_D G) vwCl (zt_ww G σ) H → va_S (zt_A G) s.heap H locs → lv_has ls 7 [] → W p l e (zt_R 3 65) s m ([.ref (zt_ad G 94), .int x1, .int x2] : List Value).toArray below meth c H locs 0 0 (MQ below (zt_Ci G r σ) ([.ref (zt_ad G 94), .int x1, .int x2] : List Value).toArray s 0 0 (zt_A G)) (F0 m 282 ls []) := by
    intro H locs ls hf hP hS hl
    unfold f_X9_fitsAt_282 at hf
    refine lv_iconst (v := 1) hx hb dX9_fitsAt_282 (by decide) ?_
    refine lv_goto (tgt := 287) hx hb dX9_fitsAt_283 (by decide) ?_
    exact W.zret hx hb hr (zt_bn (by decide)).1 (fun t ht hW => ⟨⟨_, _, rfl, ⟨Option.some.inj hf, rfl⟩, zt_go hE hP hS zt_id ht hW⟩, hS.F ht⟩) hS.2.2 dX9_fitsAt_287
  have B252 : ∀ (y0 : Int32) (y1 : Int32) (u2 : Int32) (u3 : Int32) (H : Heap) (locs : List Loc) (ls : Array Slot), f_X9_fitsAt_252 σ y0 y1 u2 u3 = some r → va_P (zt_D G) vwCl (zt_ww G σ) H → va_S (zt_A G) s.heap H locs → lv_has ls 7 [(0, .ref (zt_ad G 94)), (2, .int u2), (3, .int u3)] → W p l e (zt_R 3 65) s m ([.ref (zt_ad G 94), .int x1, .int x2] : List Value).toArray below meth c H locs 0 0 (MQ below (zt_Ci G r σ) ([.ref (zt_ad G 94), .int x1, .int x2] : List Value).toArray s 0 0 (zt_A G)) (F0 m 252 ls [.int y0, .int y1]) := by
    intro y0 y1 u2 u3 H locs ls hf hP hS hl
    unfold f_X9_fitsAt_252 at hf
    refine lv_iand hx hb dX9_fitsAt_252 ?_
    refine lv_istore (lv' := [(4, .int (y1 &&& y0)), (0, .ref (zt_ad G 94)), (2, .int u2), (3, .int u3)]) hx hb dX9_fitsAt_253 hl (by decide) rfl (fun ls hl => ?_)
    refine lv_iload hx hb dX9_fitsAt_255 (lv_at hl 0 rfl) ?_
    refine lv_if_eq (tgt := 286) hx hb dX9_fitsAt_257 (by decide) (fun c42 => ?_) (fun c42 => ?_)
    · have hf := (if_pos c42).symm.trans hf
      refine lv_iconst (v := 0) hx hb dX9_fitsAt_286 (by decide) ?_
      exact W.zret hx hb hr (zt_bn (by decide)).1 (fun t ht hW => ⟨⟨_, _, rfl, ⟨Option.some.inj hf, rfl⟩, zt_go hE hP hS zt_id ht hW⟩, hS.F ht⟩) hS.2.2 dX9_fitsAt_287
    · have hf := (if_neg c42).symm.trans hf
      refine lv_aload_n hx hb dX9_fitsAt_260 rfl (lv_at hl 1 rfl) ?_
      refine va_get (D := zt_D G) (ci := 8) (v := .ref (zt_ad G 105)) (C := RX9) (T := TX9) (N := 37) hx hb hts inX9 hown hK hP 94 (zt_a8 (rfl : zt_kd 94 = 8)) rfl 14 (by decide) fl48 (fun _ h9 => h9) rfl dX9_fitsAt_261 ?_
      refine lv_iload_n hx hb dX9_fitsAt_264 rfl (lv_at hl 2 rfl) ?_
      obtain ⟨g43, hf⟩ := zt_gd_some hf
      refine va_iald hx hb hK hP 105 0 zt_a_105 rfl (zt_gI_in g43) dX9_fitsAt_265 ?_
      refine lv_iconst (v := 4) hx hb dX9_fitsAt_266 (by decide) ?_
      refine lv_icmp_ne (tgt := 282) hx hb dX9_fitsAt_267 (by decide) (fun c44 => ?_) (fun c44 => ?_)
      · have hf := (if_neg c44).symm.trans hf
        exact B282 _ _ _ hf hP hS (lv_sub hl [] rfl)
      · have hf := (if_pos c44).symm.trans hf
        refine lv_aload_n hx hb dX9_fitsAt_270 rfl (lv_at hl 1 rfl) ?_
        refine lv_bipush (v := 12) hx hb dX9_fitsAt_271 (by decide +kernel) ?_
        refine lv_iload_n hx hb dX9_fitsAt_273 rfl (lv_at hl 3 rfl) ?_
        refine lv_iconst (v := 3) hx hb dX9_fitsAt_274 (by decide) ?_
        obtain ⟨v45, hvv45, hf⟩ := zt_bd_some hf
        refine va_calli (va_runV (As := [.int 12, .int u3, .int 3]) (rest := []) ⟨hx, hb, hml, hown, hts⟩ (m_X9_find l G (σ := σ) hvv45) (cwV 3 hts gX9_fitsAt_X9_find rfl rfl rfl zh_X9_find ⟨Nat.le_of_ble_eq_true rfl, Nat.le_of_ble_eq_true rfl⟩) ⟨zt_blind, va_recv hK hP (ci := 8) (q0 := 94) rfl (zt_a8 (rfl : zt_kd 94 = 8)), fun U hU hW => ⟨rfl, zt_go hE hP hS zt_id hU hW⟩⟩ rfl rfl hl.1 rfl (lv_room (Nat.le_of_ble_eq_true rfl)) dX9_fitsAt_275 ⟨Nat.zero_le _, Nat.zero_le _⟩) hS (fun _ _ h => h) (fun _ h => h) (fun r u t H locs ht hvm hw hB _ _ hS => ?_)
        rw [hw.1]; have hB : zt_B G u t := hB; rw [hw.2] at hB; have hP := zt_B.P hB ht
        refine lv_iconst (v := (-1)) hx hb dX9_fitsAt_278 (by decide) ?_
        refine lv_icmp_eq (tgt := 286) hx hb dX9_fitsAt_279 (by decide) (fun c47 => ?_) (fun c47 => ?_)
        · have hf := (if_pos c47).symm.trans hf
          refine lv_iconst (v := 0) hx hb dX9_fitsAt_286 (by decide) ?_
          exact W.zret hx hb hr (zt_bn (by decide)).1 (fun t ht hW => ⟨⟨_, _, rfl, ⟨Option.some.inj hf, rfl⟩, zt_go hE hP hS zt_id ht hW⟩, hS.F ht⟩) hS.2.2 dX9_fitsAt_287
        · have hf := (if_neg c47).symm.trans hf
          exact B282 _ _ _ hf hP hS (lv_sub hl [] rfl)
  have B247 : ∀ (y0 : Int32) (u2 : Int32) (u3 : Int32) (H : Heap) (locs : List Loc) (ls : Array Slot), f_X9_fitsAt_247 σ y0 u2 u3 = some r → va_P (zt_D G) vwCl (zt_ww G σ) H → va_S (zt_A G) s.heap H locs → lv_has ls 7 [(0, .ref (zt_ad G 94)), (2, .int u2), (3, .int u3)] → W p l e (zt_R 3 65) s m ([.ref (zt_ad G 94), .int x1, .int x2] : List Value).toArray below meth c H locs 0 0 (MQ below (zt_Ci G r σ) ([.ref (zt_ad G 94), .int x1, .int x2] : List Value).toArray s 0 0 (zt_A G)) (F0 m 247 ls [.int y0]) := by
    intro y0 u2 u3 H locs ls hf hP hS hl
    unfold f_X9_fitsAt_247 at hf
    refine lv_iconst (v := 1) hx hb dX9_fitsAt_247 (by decide) ?_
    refine lv_goto (tgt := 252) hx hb dX9_fitsAt_248 (by decide) ?_
    exact B252 1 y0 u2 u3 _ _ _ hf hP hS (lv_sub hl [0, 1, 2] rfl)
  have B251 : ∀ (y0 : Int32) (u2 : Int32) (u3 : Int32) (H : Heap) (locs : List Loc) (ls : Array Slot), f_X9_fitsAt_251 σ y0 u2 u3 = some r → va_P (zt_D G) vwCl (zt_ww G σ) H → va_S (zt_A G) s.heap H locs → lv_has ls 7 [(0, .ref (zt_ad G 94)), (2, .int u2), (3, .int u3)] → W p l e (zt_R 3 65) s m ([.ref (zt_ad G 94), .int x1, .int x2] : List Value).toArray below meth c H locs 0 0 (MQ below (zt_Ci G r σ) ([.ref (zt_ad G 94), .int x1, .int x2] : List Value).toArray s 0 0 (zt_A G)) (F0 m 251 ls [.int y0]) := by
    intro y0 u2 u3 H locs ls hf hP hS hl
    unfold f_X9_fitsAt_251 at hf
    refine lv_iconst (v := 0) hx hb dX9_fitsAt_251 (by decide) ?_
    exact B252 0 y0 u2 u3 _ _ _ hf hP hS (lv_sub hl [0, 1, 2] rfl)
  have B194 : ∀ (y0 : Int32) (y1 : Int32) (u1 : Int32) (u2 : Int32) (u3 : Int32) (H : Heap) (locs : List Loc) (ls : Array Slot), f_X9_fitsAt_194 σ y0 y1 u1 u2 u3 = some r → va_P (zt_D G) vwCl (zt_ww G σ) H → va_S (zt_A G) s.heap H locs → lv_has ls 7 [(0, .ref (zt_ad G 94)), (1, .int u1), (2, .int u2), (3, .int u3)] → W p l e (zt_R 3 65) s m ([.ref (zt_ad G 94), .int x1, .int x2] : List Value).toArray below meth c H locs 0 0 (MQ below (zt_Ci G r σ) ([.ref (zt_ad G 94), .int x1, .int x2] : List Value).toArray s 0 0 (zt_A G)) (F0 m 194 ls [.int y0, .int y1]) := by
    intro y0 y1 u1 u2 u3 H locs ls hf hP hS hl
    unfold f_X9_fitsAt_194 at hf
    refine lv_iand hx hb dX9_fitsAt_194 ?_
    refine lv_istore (lv' := [(4, .int (y1 &&& y0)), (0, .ref (zt_ad G 94)), (1, .int u1), (2, .int u2), (3, .int u3)]) hx hb dX9_fitsAt_195 hl (by decide) rfl (fun ls hl => ?_)
    refine lv_iload hx hb dX9_fitsAt_197 (lv_at hl 0 rfl) ?_
    refine lv_aload_n hx hb dX9_fitsAt_199 rfl (lv_at hl 1 rfl) ?_
    refine va_get (D := zt_D G) (ci := 8) (v := .ref (zt_ad G 105)) (C := RX9) (T := TX9) (N := 37) hx hb hts inX9 hown hK hP 94 (zt_a8 (rfl : zt_kd 94 = 8)) rfl 14 (by decide) fl48 (fun _ h9 => h9) rfl dX9_fitsAt_200 ?_
    refine lv_iload_n hx hb dX9_fitsAt_203 rfl (lv_at hl 3 rfl) ?_
    obtain ⟨g23, hf⟩ := zt_gd_some hf
    refine va_iald hx hb hK hP 105 0 zt_a_105 rfl (zt_gI_in g23) dX9_fitsAt_204 ?_
    refine lv_iconst (v := 3) hx hb dX9_fitsAt_205 (by decide) ?_
    refine lv_icmp_ne (tgt := 247) hx hb dX9_fitsAt_206 (by decide) (fun c24 => ?_) (fun c24 => ?_)
    · have hf := (if_neg c24).symm.trans hf
      exact B247 (y1 &&& y0) u2 u3 _ _ _ hf hP hS (lv_sub hl [1, 3, 4] rfl)
    · have hf := (if_pos c24).symm.trans hf
      refine lv_iload_n hx hb dX9_fitsAt_209 rfl (lv_at hl 4 rfl) ?_
      refine lv_aload_n hx hb dX9_fitsAt_210 rfl (lv_at hl 1 rfl) ?_
      refine va_get (D := zt_D G) (ci := 8) (v := .ref (zt_ad G 95)) (C := RX9) (T := TX9) (N := 37) hx hb hts inX9 hown hK hP 94 (zt_a8 (rfl : zt_kd 94 = 8)) rfl 3 (by decide) fl13 (fun _ h9 => h9) rfl dX9_fitsAt_211 ?_
      refine lv_iload_n hx hb dX9_fitsAt_214 rfl (lv_at hl 2 rfl) ?_
      obtain ⟨g25, hf⟩ := zt_gd_some hf
      refine va_iald hx hb hK hP 95 0 zt_a_95 rfl (zt_gI_in g25) dX9_fitsAt_215 ?_
      refine lv_icmp_eq (tgt := 251) hx hb dX9_fitsAt_216 (by decide) (fun c26 => ?_) (fun c26 => ?_)
      · have hf := (if_pos c26).symm.trans hf
        exact B251 (y1 &&& y0) u2 u3 _ _ _ hf hP hS (lv_sub hl [1, 3, 4] rfl)
      · have hf := (if_neg c26).symm.trans hf
        refine lv_aload_n hx hb dX9_fitsAt_219 rfl (lv_at hl 1 rfl) ?_
        refine va_get (D := zt_D G) (ci := 8) (v := .ref (zt_ad G 106)) (C := RX9) (T := TX9) (N := 37) hx hb hts inX9 hown hK hP 94 (zt_a8 (rfl : zt_kd 94 = 8)) rfl 15 (by decide) fl51 (fun _ h9 => h9) rfl dX9_fitsAt_220 ?_
        refine lv_iload_n hx hb dX9_fitsAt_223 rfl (lv_at hl 3 rfl) ?_
        obtain ⟨g27, hf⟩ := zt_gd_some hf
        refine va_iald hx hb hK hP 106 0 zt_a_106 rfl (zt_gI_in g27) dX9_fitsAt_224 ?_
        refine lv_aload_n hx hb dX9_fitsAt_225 rfl (lv_at hl 1 rfl) ?_
        refine va_get (D := zt_D G) (ci := 8) (v := .int (σ 94 2)) (C := RX9) (T := TX9) (N := 37) hx hb hts inX9 hown hK hP 94 (zt_a8 (rfl : zt_kd 94 = 8)) rfl 2 (by decide) fl7 (fun _ h9 => h9) rfl dX9_fitsAt_226 ?_
        refine lv_icmp_ge (tgt := 251) hx hb dX9_fitsAt_229 (by decide) (fun c28 => ?_) (fun c28 => ?_)
        · have hf := (if_pos c28).symm.trans hf
          exact B251 (y1 &&& y0) u2 u3 _ _ _ hf hP hS (lv_sub hl [1, 3, 4] rfl)
        · have hf := (if_neg c28).symm.trans hf
          refine lv_aload_n hx hb dX9_fitsAt_232 rfl (lv_at hl 1 rfl) ?_
          refine va_get (D := zt_D G) (ci := 8) (v := .ref (zt_ad G 95)) (C := RX9) (T := TX9) (N := 37) hx hb hts inX9 hown hK hP 94 (zt_a8 (rfl : zt_kd 94 = 8)) rfl 3 (by decide) fl13 (fun _ h9 => h9) rfl dX9_fitsAt_233 ?_
          refine lv_aload_n hx hb dX9_fitsAt_236 rfl (lv_at hl 1 rfl) ?_
          refine va_get (D := zt_D G) (ci := 8) (v := .ref (zt_ad G 106)) (C := RX9) (T := TX9) (N := 37) hx hb hts inX9 hown hK hP 94 (zt_a8 (rfl : zt_kd 94 = 8)) rfl 15 (by decide) fl51 (fun _ h9 => h9) rfl dX9_fitsAt_237 ?_
          refine lv_iload_n hx hb dX9_fitsAt_240 rfl (lv_at hl 3 rfl) ?_
          obtain ⟨g29, hf⟩ := zt_gd_some hf
          refine va_iald hx hb hK hP 106 0 zt_a_106 rfl (zt_gI_in g29) dX9_fitsAt_241 ?_
          obtain ⟨g30, hf⟩ := zt_gd_some hf
          refine va_iald hx hb hK hP 95 0 zt_a_95 rfl (zt_gI_in g30) dX9_fitsAt_242 ?_
          refine lv_iload_n hx hb dX9_fitsAt_243 rfl (lv_at hl 4 rfl) ?_
          refine lv_icmp_ne (tgt := 251) hx hb dX9_fitsAt_244 (by decide) (fun c31 => ?_) (fun c31 => ?_)
          · have hf := (if_neg c31).symm.trans hf
            exact B251 (y1 &&& y0) u2 u3 _ _ _ hf hP hS (lv_sub hl [1, 3, 4] rfl)
          · have hf := (if_pos c31).symm.trans hf
            exact B247 (y1 &&& y0) u2 u3 _ _ _ hf hP hS (lv_sub hl [1, 3, 4] rfl)
  have B189 : ∀ (y0 : Int32) (u1 : Int32) (u2 : Int32) (u3 : Int32) (H : Heap) (locs : List Loc) (ls : Array Slot), f_X9_fitsAt_189 σ y0 u1 u2 u3 = some r → va_P (zt_D G) vwCl (zt_ww G σ) H → va_S (zt_A G) s.heap H locs → lv_has ls 7 [(0, .ref (zt_ad G 94)), (1, .int u1), (2, .int u2), (3, .int u3)] → W p l e (zt_R 3 65) s m ([.ref (zt_ad G 94), .int x1, .int x2] : List Value).toArray below meth c H locs 0 0 (MQ below (zt_Ci G r σ) ([.ref (zt_ad G 94), .int x1, .int x2] : List Value).toArray s 0 0 (zt_A G)) (F0 m 189 ls [.int y0]) := by
    intro y0 u1 u2 u3 H locs ls hf hP hS hl
    unfold f_X9_fitsAt_189 at hf
    refine lv_iconst (v := 1) hx hb dX9_fitsAt_189 (by decide) ?_
    refine lv_goto (tgt := 194) hx hb dX9_fitsAt_190 (by decide) ?_
    exact B194 1 y0 u1 u2 u3 _ _ _ hf hP hS (lv_sub hl [0, 1, 2, 3] rfl)
  have B178 : ∀ (y0 : Int32) (u1 : Int32) (u2 : Int32) (u3 : Int32) (H : Heap) (locs : List Loc) (ls : Array Slot), f_X9_fitsAt_178 σ y0 u1 u2 u3 = some r → va_P (zt_D G) vwCl (zt_ww G σ) H → va_S (zt_A G) s.heap H locs → lv_has ls 7 [(0, .ref (zt_ad G 94)), (1, .int u1), (2, .int u2), (3, .int u3)] → W p l e (zt_R 3 65) s m ([.ref (zt_ad G 94), .int x1, .int x2] : List Value).toArray below meth c H locs 0 0 (MQ below (zt_Ci G r σ) ([.ref (zt_ad G 94), .int x1, .int x2] : List Value).toArray s 0 0 (zt_A G)) (F0 m 178 ls [.int y0]) := by
    intro y0 u1 u2 u3 H locs ls hf hP hS hl
    unfold f_X9_fitsAt_178 at hf
    refine lv_iload_n hx hb dX9_fitsAt_178 rfl (lv_at hl 3 rfl) ?_
    refine lv_if_eq (tgt := 189) hx hb dX9_fitsAt_179 (by decide) (fun c18 => ?_) (fun c18 => ?_)
    · have hf := (if_pos c18).symm.trans hf
      exact B189 y0 u1 u2 u3 _ _ _ hf hP hS (lv_sub hl [0, 1, 2, 3] rfl)
    · have hf := (if_neg c18).symm.trans hf
      refine lv_iload_n hx hb dX9_fitsAt_182 rfl (lv_at hl 3 rfl) ?_
      refine lv_bipush (v := 10) hx hb dX9_fitsAt_183 (by decide +kernel) ?_
      refine lv_irem hx hb dX9_fitsAt_185 (by decide) ?_
      refine lv_if_eq (tgt := 193) hx hb dX9_fitsAt_186 (by decide) (fun c19 => ?_) (fun c19 => ?_)
      · have hf := (if_pos c19).symm.trans hf
        refine lv_iconst (v := 0) hx hb dX9_fitsAt_193 (by decide) ?_
        exact B194 0 y0 u1 u2 u3 _ _ _ hf hP hS (lv_sub hl [0, 1, 2, 3] rfl)
      · have hf := (if_neg c19).symm.trans hf
        exact B189 y0 u1 u2 u3 _ _ _ hf hP hS (lv_sub hl [0, 1, 2, 3] rfl)
  have B137 : ∀ (rc27 : Int32 → Int32 → Int32 → Int32 → Int32 → Option (Int32)) (hrc27 : ∀ (u1 : Int32) (u2 : Int32) (u3 : Int32) (u4 : Int32) (u5 : Int32) (H : Heap) (locs : List Loc) (ls : Array Slot), rc27 u1 u2 u3 u4 u5 = some r → va_P (zt_D G) vwCl (zt_ww G σ) H → va_S (zt_A G) s.heap H locs → lv_has ls 7 [(0, .ref (zt_ad G 94)), (1, .int u1), (2, .int u2), (3, .int u3), (4, .int u4), (5, .int u5)] → W p l e (zt_R 3 65) s m ([.ref (zt_ad G 94), .int x1, .int x2] : List Value).toArray below meth c H locs 0 0 (MQ below (zt_Ci G r σ) ([.ref (zt_ad G 94), .int x1, .int x2] : List Value).toArray s 0 0 (zt_A G)) (F0 m 27 ls [])), ∀ (y0 : Int32) (y1 : Int32) (u1 : Int32) (u2 : Int32) (u3 : Int32) (u5 : Int32) (H : Heap) (locs : List Loc) (ls : Array Slot), f_X9_fitsAt_137 σ rc27 y0 y1 u1 u2 u3 u5 = some r → va_P (zt_D G) vwCl (zt_ww G σ) H → va_S (zt_A G) s.heap H locs → lv_has ls 7 [(0, .ref (zt_ad G 94)), (1, .int u1), (2, .int u2), (3, .int u3), (5, .int u5)] → W p l e (zt_R 3 65) s m ([.ref (zt_ad G 94), .int x1, .int x2] : List Value).toArray below meth c H locs 0 0 (MQ below (zt_Ci G r σ) ([.ref (zt_ad G 94), .int x1, .int x2] : List Value).toArray s 0 0 (zt_A G)) (F0 m 137 ls [.int y0, .int y1]) := by
    intro rc27 hrc27 y0 y1 u1 u2 u3 u5 H locs ls hf hP hS hl
    unfold f_X9_fitsAt_137 at hf
    refine lv_iand hx hb dX9_fitsAt_137 ?_
    refine lv_istore (lv' := [(4, .int (y1 &&& y0)), (0, .ref (zt_ad G 94)), (1, .int u1), (2, .int u2), (3, .int u3), (5, .int u5)]) hx hb dX9_fitsAt_138 hl (by decide) rfl (fun ls hl => ?_)
    refine lv_iinc (v := (u5 + 1)) (lv' := [(5, .int (u5 + 1)), (4, .int (y1 &&& y0)), (0, .ref (zt_ad G 94)), (1, .int u1), (2, .int u2), (3, .int u3)]) hx hb dX9_fitsAt_140 hl (k := 5) rfl rfl (by decide) rfl (fun ls hl => ?_)
    refine lv_goto (tgt := 27) hx hb dX9_fitsAt_143 (by decide) ?_
    exact hrc27 u1 u2 u3 (y1 &&& y0) (u5 + 1) _ _ _ hf hP hS (lv_sub hl [2, 3, 4, 5, 1, 0] rfl)
  have B132 : ∀ (rc27 : Int32 → Int32 → Int32 → Int32 → Int32 → Option (Int32)) (hrc27 : ∀ (u1 : Int32) (u2 : Int32) (u3 : Int32) (u4 : Int32) (u5 : Int32) (H : Heap) (locs : List Loc) (ls : Array Slot), rc27 u1 u2 u3 u4 u5 = some r → va_P (zt_D G) vwCl (zt_ww G σ) H → va_S (zt_A G) s.heap H locs → lv_has ls 7 [(0, .ref (zt_ad G 94)), (1, .int u1), (2, .int u2), (3, .int u3), (4, .int u4), (5, .int u5)] → W p l e (zt_R 3 65) s m ([.ref (zt_ad G 94), .int x1, .int x2] : List Value).toArray below meth c H locs 0 0 (MQ below (zt_Ci G r σ) ([.ref (zt_ad G 94), .int x1, .int x2] : List Value).toArray s 0 0 (zt_A G)) (F0 m 27 ls [])), ∀ (y0 : Int32) (u1 : Int32) (u2 : Int32) (u3 : Int32) (u5 : Int32) (H : Heap) (locs : List Loc) (ls : Array Slot), f_X9_fitsAt_132 σ rc27 y0 u1 u2 u3 u5 = some r → va_P (zt_D G) vwCl (zt_ww G σ) H → va_S (zt_A G) s.heap H locs → lv_has ls 7 [(0, .ref (zt_ad G 94)), (1, .int u1), (2, .int u2), (3, .int u3), (5, .int u5)] → W p l e (zt_R 3 65) s m ([.ref (zt_ad G 94), .int x1, .int x2] : List Value).toArray below meth c H locs 0 0 (MQ below (zt_Ci G r σ) ([.ref (zt_ad G 94), .int x1, .int x2] : List Value).toArray s 0 0 (zt_A G)) (F0 m 132 ls [.int y0]) := by
    intro rc27 hrc27 y0 u1 u2 u3 u5 H locs ls hf hP hS hl
    unfold f_X9_fitsAt_132 at hf
    refine lv_iconst (v := 1) hx hb dX9_fitsAt_132 (by decide) ?_
    refine lv_goto (tgt := 137) hx hb dX9_fitsAt_133 (by decide) ?_
    exact B137 rc27 hrc27 1 y0 u1 u2 u3 u5 _ _ _ hf hP hS (lv_sub hl [0, 1, 2, 3, 4] rfl)
  have B89 : ∀ (rc27 : Int32 → Int32 → Int32 → Int32 → Int32 → Option (Int32)) (hrc27 : ∀ (u1 : Int32) (u2 : Int32) (u3 : Int32) (u4 : Int32) (u5 : Int32) (H : Heap) (locs : List Loc) (ls : Array Slot), rc27 u1 u2 u3 u4 u5 = some r → va_P (zt_D G) vwCl (zt_ww G σ) H → va_S (zt_A G) s.heap H locs → lv_has ls 7 [(0, .ref (zt_ad G 94)), (1, .int u1), (2, .int u2), (3, .int u3), (4, .int u4), (5, .int u5)] → W p l e (zt_R 3 65) s m ([.ref (zt_ad G 94), .int x1, .int x2] : List Value).toArray below meth c H locs 0 0 (MQ below (zt_Ci G r σ) ([.ref (zt_ad G 94), .int x1, .int x2] : List Value).toArray s 0 0 (zt_A G)) (F0 m 27 ls [])), ∀ (y0 : Int32) (y1 : Int32) (u1 : Int32) (u2 : Int32) (u3 : Int32) (u5 : Int32) (H : Heap) (locs : List Loc) (ls : Array Slot), f_X9_fitsAt_89 σ rc27 y0 y1 u1 u2 u3 u5 = some r → va_P (zt_D G) vwCl (zt_ww G σ) H → va_S (zt_A G) s.heap H locs → lv_has ls 7 [(0, .ref (zt_ad G 94)), (1, .int u1), (2, .int u2), (3, .int u3), (5, .int u5)] → W p l e (zt_R 3 65) s m ([.ref (zt_ad G 94), .int x1, .int x2] : List Value).toArray below meth c H locs 0 0 (MQ below (zt_Ci G r σ) ([.ref (zt_ad G 94), .int x1, .int x2] : List Value).toArray s 0 0 (zt_A G)) (F0 m 89 ls [.int y0, .int y1]) := by
    intro rc27 hrc27 y0 y1 u1 u2 u3 u5 H locs ls hf hP hS hl
    unfold f_X9_fitsAt_89 at hf
    refine lv_iand hx hb dX9_fitsAt_89 ?_
    refine lv_istore (lv' := [(4, .int (y1 &&& y0)), (0, .ref (zt_ad G 94)), (1, .int u1), (2, .int u2), (3, .int u3), (5, .int u5)]) hx hb dX9_fitsAt_90 hl (by decide) rfl (fun ls hl => ?_)
    refine lv_iload hx hb dX9_fitsAt_92 (lv_at hl 0 rfl) ?_
    refine lv_aload_n hx hb dX9_fitsAt_94 rfl (lv_at hl 1 rfl) ?_
    refine va_get (D := zt_D G) (ci := 8) (v := .ref (zt_ad G 105)) (C := RX9) (T := TX9) (N := 37) hx hb hts inX9 hown hK hP 94 (zt_a8 (rfl : zt_kd 94 = 8)) rfl 14 (by decide) fl48 (fun _ h9 => h9) rfl dX9_fitsAt_95 ?_
    refine lv_iload_n hx hb dX9_fitsAt_98 rfl (lv_at hl 3 rfl) ?_
    obtain ⟨g32, hf⟩ := zt_gd_some hf
    refine va_iald hx hb hK hP 105 0 zt_a_105 rfl (zt_gI_in g32) dX9_fitsAt_99 ?_
    refine lv_iconst (v := 2) hx hb dX9_fitsAt_100 (by decide) ?_
    refine lv_icmp_ne (tgt := 132) hx hb dX9_fitsAt_101 (by decide) (fun c33 => ?_) (fun c33 => ?_)
    · have hf := (if_neg c33).symm.trans hf
      exact B132 rc27 hrc27 (y1 &&& y0) u1 u2 u3 u5 _ _ _ hf hP hS (lv_sub hl [1, 2, 3, 4, 5] rfl)
    · have hf := (if_pos c33).symm.trans hf
      refine lv_aload_n hx hb dX9_fitsAt_104 rfl (lv_at hl 1 rfl) ?_
      refine va_get (D := zt_D G) (ci := 8) (v := .ref (zt_ad G 104)) (C := RX9) (T := TX9) (N := 37) hx hb hts inX9 hown hK hP 94 (zt_a8 (rfl : zt_kd 94 = 8)) rfl 13 (by decide) fl45 (fun _ h9 => h9) rfl dX9_fitsAt_105 ?_
      refine lv_iload hx hb dX9_fitsAt_108 (lv_at hl 5 rfl) ?_
      obtain ⟨g34, hf⟩ := zt_gd_some hf
      refine va_iald hx hb hK hP 104 0 zt_a_104 rfl (zt_gI_in g34) dX9_fitsAt_110 ?_
      refine lv_iload_n hx hb dX9_fitsAt_111 rfl (lv_at hl 4 rfl) ?_
      refine lv_icmp_eq (tgt := 132) hx hb dX9_fitsAt_112 (by decide) (fun c35 => ?_) (fun c35 => ?_)
      · have hf := (if_pos c35).symm.trans hf
        exact B132 rc27 hrc27 (y1 &&& y0) u1 u2 u3 u5 _ _ _ hf hP hS (lv_sub hl [1, 2, 3, 4, 5] rfl)
      · have hf := (if_neg c35).symm.trans hf
        refine lv_aload_n hx hb dX9_fitsAt_115 rfl (lv_at hl 1 rfl) ?_
        refine va_get (D := zt_D G) (ci := 8) (v := .ref (zt_ad G 104)) (C := RX9) (T := TX9) (N := 37) hx hb hts inX9 hown hK hP 94 (zt_a8 (rfl : zt_kd 94 = 8)) rfl 13 (by decide) fl45 (fun _ h9 => h9) rfl dX9_fitsAt_116 ?_
        refine lv_iload hx hb dX9_fitsAt_119 (lv_at hl 5 rfl) ?_
        obtain ⟨g36, hf⟩ := zt_gd_some hf
        refine va_iald hx hb hK hP 104 0 zt_a_104 rfl (zt_gI_in g36) dX9_fitsAt_121 ?_
        obtain ⟨v37, hvv37, hf⟩ := zt_bd_some hf
        refine va_calli (va_runS (As := [.int (σ 104 u5.toNatClampNeg)]) (rest := [.int (y1 &&& y0)]) ⟨hx, hb, hml, hown, hts⟩ (m_X9_base l G (σ := σ) hvv37) (va_cwS 1 hts gX9_fitsAt_X9_base rfl rfl rfl zh_X9_base ⟨Nat.le_of_ble_eq_true rfl, Nat.le_of_ble_eq_true rfl⟩) ⟨zt_blind, fun U hU hW => ⟨rfl, zt_go hE hP hS zt_id hU hW⟩⟩ rfl rfl hl.1 rfl (lv_room (Nat.le_of_ble_eq_true rfl)) dX9_fitsAt_122 ⟨Nat.zero_le _, Nat.zero_le _⟩) hS (fun _ _ h => h) (fun _ h => h) (fun r u t H locs ht hvm hw hB _ _ hS => ?_)
        rw [hw.1]; have hB : zt_B G u t := hB; rw [hw.2] at hB; have hP := zt_B.P hB ht
        refine lv_iload_n hx hb dX9_fitsAt_125 rfl (lv_at hl 4 rfl) ?_
        obtain ⟨v39, hvv39, hf⟩ := zt_bd_some hf
        refine va_calli (va_runS (As := [.int v37, .int u3]) (rest := [.int (y1 &&& y0)]) ⟨hx, hb, hml, hown, hts⟩ (m_X9_isUnder l G (σ := σ) hvv39) (va_cwS 2 hts gX9_fitsAt_X9_isUnder rfl rfl rfl zh_X9_isUnder ⟨Nat.le_of_ble_eq_true rfl, Nat.le_of_ble_eq_true rfl⟩) ⟨zt_blind, fun U hU hW => ⟨rfl, zt_go hE hP hS zt_id hU hW⟩⟩ rfl rfl hl.1 rfl (lv_room (Nat.le_of_ble_eq_true rfl)) dX9_fitsAt_126 ⟨Nat.zero_le _, Nat.zero_le _⟩) hS (fun _ _ h => h) (fun _ h => h) (fun r u t H locs ht hvm hw hB _ _ hS => ?_)
        rw [hw.1]; have hB : zt_B G u t := hB; rw [hw.2] at hB; have hP := zt_B.P hB ht
        refine lv_if_ne (tgt := 136) hx hb dX9_fitsAt_129 (by decide) (fun c41 => ?_) (fun c41 => ?_)
        · have hf := (if_neg c41).symm.trans hf
          refine lv_iconst (v := 0) hx hb dX9_fitsAt_136 (by decide) ?_
          exact B137 rc27 hrc27 0 (y1 &&& y0) u1 u2 u3 u5 _ _ _ hf hP hS (lv_sub hl [1, 2, 3, 4, 5] rfl)
        · have hf := (if_pos c41).symm.trans hf
          exact B132 rc27 hrc27 (y1 &&& y0) u1 u2 u3 u5 _ _ _ hf hP hS (lv_sub hl [1, 2, 3, 4, 5] rfl)
  have B84 : ∀ (rc27 : Int32 → Int32 → Int32 → Int32 → Int32 → Option (Int32)) (hrc27 : ∀ (u1 : Int32) (u2 : Int32) (u3 : Int32) (u4 : Int32) (u5 : Int32) (H : Heap) (locs : List Loc) (ls : Array Slot), rc27 u1 u2 u3 u4 u5 = some r → va_P (zt_D G) vwCl (zt_ww G σ) H → va_S (zt_A G) s.heap H locs → lv_has ls 7 [(0, .ref (zt_ad G 94)), (1, .int u1), (2, .int u2), (3, .int u3), (4, .int u4), (5, .int u5)] → W p l e (zt_R 3 65) s m ([.ref (zt_ad G 94), .int x1, .int x2] : List Value).toArray below meth c H locs 0 0 (MQ below (zt_Ci G r σ) ([.ref (zt_ad G 94), .int x1, .int x2] : List Value).toArray s 0 0 (zt_A G)) (F0 m 27 ls [])), ∀ (y0 : Int32) (u1 : Int32) (u2 : Int32) (u3 : Int32) (u5 : Int32) (H : Heap) (locs : List Loc) (ls : Array Slot), f_X9_fitsAt_84 σ rc27 y0 u1 u2 u3 u5 = some r → va_P (zt_D G) vwCl (zt_ww G σ) H → va_S (zt_A G) s.heap H locs → lv_has ls 7 [(0, .ref (zt_ad G 94)), (1, .int u1), (2, .int u2), (3, .int u3), (5, .int u5)] → W p l e (zt_R 3 65) s m ([.ref (zt_ad G 94), .int x1, .int x2] : List Value).toArray below meth c H locs 0 0 (MQ below (zt_Ci G r σ) ([.ref (zt_ad G 94), .int x1, .int x2] : List Value).toArray s 0 0 (zt_A G)) (F0 m 84 ls [.int y0]) := by
    intro rc27 hrc27 y0 u1 u2 u3 u5 H locs ls hf hP hS hl
    unfold f_X9_fitsAt_84 at hf
    refine lv_iconst (v := 1) hx hb dX9_fitsAt_84 (by decide) ?_
    refine lv_goto (tgt := 89) hx hb dX9_fitsAt_85 (by decide) ?_
    exact B89 rc27 hrc27 1 y0 u1 u2 u3 u5 _ _ _ hf hP hS (lv_sub hl [0, 1, 2, 3, 4] rfl)
  have B65 : ∀ (rc27 : Int32 → Int32 → Int32 → Int32 → Int32 → Option (Int32)) (hrc27 : ∀ (u1 : Int32) (u2 : Int32) (u3 : Int32) (u4 : Int32) (u5 : Int32) (H : Heap) (locs : List Loc) (ls : Array Slot), rc27 u1 u2 u3 u4 u5 = some r → va_P (zt_D G) vwCl (zt_ww G σ) H → va_S (zt_A G) s.heap H locs → lv_has ls 7 [(0, .ref (zt_ad G 94)), (1, .int u1), (2, .int u2), (3, .int u3), (4, .int u4), (5, .int u5)] → W p l e (zt_R 3 65) s m ([.ref (zt_ad G 94), .int x1, .int x2] : List Value).toArray below meth c H locs 0 0 (MQ below (zt_Ci G r σ) ([.ref (zt_ad G 94), .int x1, .int x2] : List Value).toArray s 0 0 (zt_A G)) (F0 m 27 ls [])), ∀ (y0 : Int32) (u1 : Int32) (u2 : Int32) (u3 : Int32) (u4 : Int32) (u5 : Int32) (H : Heap) (locs : List Loc) (ls : Array Slot), f_X9_fitsAt_65 σ rc27 y0 u1 u2 u3 u4 u5 = some r → va_P (zt_D G) vwCl (zt_ww G σ) H → va_S (zt_A G) s.heap H locs → lv_has ls 7 [(0, .ref (zt_ad G 94)), (1, .int u1), (2, .int u2), (3, .int u3), (4, .int u4), (5, .int u5)] → W p l e (zt_R 3 65) s m ([.ref (zt_ad G 94), .int x1, .int x2] : List Value).toArray below meth c H locs 0 0 (MQ below (zt_Ci G r σ) ([.ref (zt_ad G 94), .int x1, .int x2] : List Value).toArray s 0 0 (zt_A G)) (F0 m 65 ls [.int y0]) := by
    intro rc27 hrc27 y0 u1 u2 u3 u4 u5 H locs ls hf hP hS hl
    unfold f_X9_fitsAt_65 at hf
    refine lv_istore (lv' := [(6, .int y0), (0, .ref (zt_ad G 94)), (1, .int u1), (2, .int u2), (3, .int u3), (4, .int u4), (5, .int u5)]) hx hb dX9_fitsAt_65 hl (by decide) rfl (fun ls hl => ?_)
    refine lv_iload hx hb dX9_fitsAt_67 (lv_at hl 5 rfl) ?_
    refine lv_aload_n hx hb dX9_fitsAt_69 rfl (lv_at hl 1 rfl) ?_
    refine va_get (D := zt_D G) (ci := 8) (v := .ref (zt_ad G 105)) (C := RX9) (T := TX9) (N := 37) hx hb hts inX9 hown hK hP 94 (zt_a8 (rfl : zt_kd 94 = 8)) rfl 14 (by decide) fl48 (fun _ h9 => h9) rfl dX9_fitsAt_70 ?_
    refine lv_iload_n hx hb dX9_fitsAt_73 rfl (lv_at hl 3 rfl) ?_
    obtain ⟨g20, hf⟩ := zt_gd_some hf
    refine va_iald hx hb hK hP 105 0 zt_a_105 rfl (zt_gI_in g20) dX9_fitsAt_74 ?_
    refine lv_iconst (v := 1) hx hb dX9_fitsAt_75 (by decide) ?_
    refine lv_icmp_ne (tgt := 84) hx hb dX9_fitsAt_76 (by decide) (fun c21 => ?_) (fun c21 => ?_)
    · have hf := (if_neg c21).symm.trans hf
      exact B84 rc27 hrc27 u4 u1 u2 u3 u5 _ _ _ hf hP hS (lv_sub hl [1, 2, 3, 4, 6] rfl)
    · have hf := (if_pos c21).symm.trans hf
      refine lv_iload hx hb dX9_fitsAt_79 (lv_at hl 0 rfl) ?_
      refine lv_if_ne (tgt := 88) hx hb dX9_fitsAt_81 (by decide) (fun c22 => ?_) (fun c22 => ?_)
      · have hf := (if_neg c22).symm.trans hf
        refine lv_iconst (v := 0) hx hb dX9_fitsAt_88 (by decide) ?_
        exact B89 rc27 hrc27 0 u4 u1 u2 u3 u5 _ _ _ hf hP hS (lv_sub hl [1, 2, 3, 4, 6] rfl)
      · have hf := (if_pos c22).symm.trans hf
        exact B84 rc27 hrc27 u4 u1 u2 u3 u5 _ _ _ hf hP hS (lv_sub hl [1, 2, 3, 4, 6] rfl)
  have B64 : ∀ (rc27 : Int32 → Int32 → Int32 → Int32 → Int32 → Option (Int32)) (hrc27 : ∀ (u1 : Int32) (u2 : Int32) (u3 : Int32) (u4 : Int32) (u5 : Int32) (H : Heap) (locs : List Loc) (ls : Array Slot), rc27 u1 u2 u3 u4 u5 = some r → va_P (zt_D G) vwCl (zt_ww G σ) H → va_S (zt_A G) s.heap H locs → lv_has ls 7 [(0, .ref (zt_ad G 94)), (1, .int u1), (2, .int u2), (3, .int u3), (4, .int u4), (5, .int u5)] → W p l e (zt_R 3 65) s m ([.ref (zt_ad G 94), .int x1, .int x2] : List Value).toArray below meth c H locs 0 0 (MQ below (zt_Ci G r σ) ([.ref (zt_ad G 94), .int x1, .int x2] : List Value).toArray s 0 0 (zt_A G)) (F0 m 27 ls [])), ∀ (u1 : Int32) (u2 : Int32) (u3 : Int32) (u4 : Int32) (u5 : Int32) (H : Heap) (locs : List Loc) (ls : Array Slot), f_X9_fitsAt_64 σ rc27 u1 u2 u3 u4 u5 = some r → va_P (zt_D G) vwCl (zt_ww G σ) H → va_S (zt_A G) s.heap H locs → lv_has ls 7 [(0, .ref (zt_ad G 94)), (1, .int u1), (2, .int u2), (3, .int u3), (4, .int u4), (5, .int u5)] → W p l e (zt_R 3 65) s m ([.ref (zt_ad G 94), .int x1, .int x2] : List Value).toArray below meth c H locs 0 0 (MQ below (zt_Ci G r σ) ([.ref (zt_ad G 94), .int x1, .int x2] : List Value).toArray s 0 0 (zt_A G)) (F0 m 64 ls []) := by
    intro rc27 hrc27 u1 u2 u3 u4 u5 H locs ls hf hP hS hl
    unfold f_X9_fitsAt_64 at hf
    refine lv_iconst (v := 0) hx hb dX9_fitsAt_64 (by decide) ?_
    exact B65 rc27 hrc27 0 u1 u2 u3 u4 u5 _ _ _ hf hP hS (lv_sub hl [0, 1, 2, 3, 4, 5] rfl)
  have B27 : ∀ (n : Nat), ∀ (u1 : Int32) (u2 : Int32) (u3 : Int32) (u4 : Int32) (u5 : Int32) (H : Heap) (locs : List Loc) (ls : Array Slot), f_X9_fitsAt_27 σ n u1 u2 u3 u4 u5 = some r → va_P (zt_D G) vwCl (zt_ww G σ) H → va_S (zt_A G) s.heap H locs → lv_has ls 7 [(0, .ref (zt_ad G 94)), (1, .int u1), (2, .int u2), (3, .int u3), (4, .int u4), (5, .int u5)] → W p l e (zt_R 3 65) s m ([.ref (zt_ad G 94), .int x1, .int x2] : List Value).toArray below meth c H locs 0 0 (MQ below (zt_Ci G r σ) ([.ref (zt_ad G 94), .int x1, .int x2] : List Value).toArray s 0 0 (zt_A G)) (F0 m 27 ls []) := by
    intro n
    induction n with
    | zero => intro u1 u2 u3 u4 u5 H locs ls hf; exact nomatch hf
    | succ n hrc27 =>
      intro u1 u2 u3 u4 u5 H locs ls hf hP hS hl
      generalize hrcg : f_X9_fitsAt_27 σ n = rc27 at hrc27
      have hf : f_X9_fitsAt_27b σ rc27 u1 u2 u3 u4 u5 = some r := by rw [← hrcg]; exact hf
      unfold f_X9_fitsAt_27b at hf
      refine lv_iload hx hb dX9_fitsAt_27 (lv_at hl 5 rfl) ?_
      refine lv_sipush (v := 384) hx hb dX9_fitsAt_29 (by decide +kernel) ?_
      refine lv_aload_n hx hb dX9_fitsAt_32 rfl (lv_at hl 0 rfl) ?_
      refine va_get (D := zt_D G) (ci := 8) (v := .ref (zt_ad G 103)) (C := RX9) (T := TX9) (N := 37) hx hb hts inX9 hown hK hP 94 (zt_a8 (rfl : zt_kd 94 = 8)) rfl 12 (by decide) fl42 (fun _ h9 => h9) rfl dX9_fitsAt_33 ?_
      refine lv_bipush (v := 12) hx hb dX9_fitsAt_36 (by decide +kernel) ?_
      refine va_iald hx hb hK hP 103 0 zt_a_103 rfl (zt_gI_in (show zt_gI 12 13 = true by decide +kernel)) dX9_fitsAt_38 ?_
      refine lv_iadd hx hb dX9_fitsAt_39 ?_
      refine lv_icmp_ge (tgt := 146) hx hb dX9_fitsAt_40 (by decide) (fun c8 => ?_) (fun c8 => ?_)
      · have hf := (if_pos c8).symm.trans hf
        refine lv_iload hx hb dX9_fitsAt_146 (lv_at hl 4 rfl) ?_
        refine lv_aload_n hx hb dX9_fitsAt_148 rfl (lv_at hl 0 rfl) ?_
        refine va_get (D := zt_D G) (ci := 8) (v := .ref (zt_ad G 105)) (C := RX9) (T := TX9) (N := 37) hx hb hts inX9 hown hK hP 94 (zt_a8 (rfl : zt_kd 94 = 8)) rfl 14 (by decide) fl48 (fun _ h9 => h9) rfl dX9_fitsAt_149 ?_
        refine lv_iload_n hx hb dX9_fitsAt_152 rfl (lv_at hl 2 rfl) ?_
        obtain ⟨g9, hf⟩ := zt_gd_some hf
        refine va_iald hx hb hK hP 105 0 zt_a_105 rfl (zt_gI_in g9) dX9_fitsAt_153 ?_
        refine lv_iconst (v := 2) hx hb dX9_fitsAt_154 (by decide) ?_
        refine lv_icmp_eq (tgt := 178) hx hb dX9_fitsAt_155 (by decide) (fun c10 => ?_) (fun c10 => ?_)
        · have hf := (if_pos c10).symm.trans hf
          exact B178 u4 u1 u2 u3 _ _ _ hf hP hS (lv_sub hl [0, 1, 2, 3] rfl)
        · have hf := (if_neg c10).symm.trans hf
          refine lv_aload_n hx hb dX9_fitsAt_158 rfl (lv_at hl 0 rfl) ?_
          refine va_get (D := zt_D G) (ci := 8) (v := .ref (zt_ad G 105)) (C := RX9) (T := TX9) (N := 37) hx hb hts inX9 hown hK hP 94 (zt_a8 (rfl : zt_kd 94 = 8)) rfl 14 (by decide) fl48 (fun _ h9 => h9) rfl dX9_fitsAt_159 ?_
          refine lv_iload_n hx hb dX9_fitsAt_162 rfl (lv_at hl 2 rfl) ?_
          obtain ⟨g11, hf⟩ := zt_gd_some hf
          refine va_iald hx hb hK hP 105 0 zt_a_105 rfl (zt_gI_in g11) dX9_fitsAt_163 ?_
          refine lv_iconst (v := 3) hx hb dX9_fitsAt_164 (by decide) ?_
          refine lv_icmp_eq (tgt := 178) hx hb dX9_fitsAt_165 (by decide) (fun c12 => ?_) (fun c12 => ?_)
          · have hf := (if_pos c12).symm.trans hf
            exact B178 u4 u1 u2 u3 _ _ _ hf hP hS (lv_sub hl [0, 1, 2, 3] rfl)
          · have hf := (if_neg c12).symm.trans hf
            refine lv_aload_n hx hb dX9_fitsAt_168 rfl (lv_at hl 0 rfl) ?_
            refine va_get (D := zt_D G) (ci := 8) (v := .ref (zt_ad G 105)) (C := RX9) (T := TX9) (N := 37) hx hb hts inX9 hown hK hP 94 (zt_a8 (rfl : zt_kd 94 = 8)) rfl 14 (by decide) fl48 (fun _ h9 => h9) rfl dX9_fitsAt_169 ?_
            refine lv_iload_n hx hb dX9_fitsAt_172 rfl (lv_at hl 2 rfl) ?_
            obtain ⟨g13, hf⟩ := zt_gd_some hf
            refine va_iald hx hb hK hP 105 0 zt_a_105 rfl (zt_gI_in g13) dX9_fitsAt_173 ?_
            refine lv_iconst (v := 4) hx hb dX9_fitsAt_174 (by decide) ?_
            refine lv_icmp_ne (tgt := 189) hx hb dX9_fitsAt_175 (by decide) (fun c14 => ?_) (fun c14 => ?_)
            · have hf := (if_neg c14).symm.trans hf
              exact B189 u4 u1 u2 u3 _ _ _ hf hP hS (lv_sub hl [0, 1, 2, 3] rfl)
            · have hf := (if_pos c14).symm.trans hf
              exact B178 u4 u1 u2 u3 _ _ _ hf hP hS (lv_sub hl [0, 1, 2, 3] rfl)
      · have hf := (if_neg c8).symm.trans hf
        refine lv_iload hx hb dX9_fitsAt_43 (lv_at hl 5 rfl) ?_
        refine lv_iload_n hx hb dX9_fitsAt_45 rfl (lv_at hl 2 rfl) ?_
        refine lv_icmp_eq (tgt := 64) hx hb dX9_fitsAt_46 (by decide) (fun c15 => ?_) (fun c15 => ?_)
        · have hf := (if_pos c15).symm.trans hf
          exact B64 rc27 hrc27 u1 u2 u3 u4 u5 _ _ _ hf hP hS (lv_sub hl [0, 1, 2, 3, 4, 5] rfl)
        · have hf := (if_neg c15).symm.trans hf
          refine lv_aload_n hx hb dX9_fitsAt_49 rfl (lv_at hl 0 rfl) ?_
          refine va_get (D := zt_D G) (ci := 8) (v := .ref (zt_ad G 104)) (C := RX9) (T := TX9) (N := 37) hx hb hts inX9 hown hK hP 94 (zt_a8 (rfl : zt_kd 94 = 8)) rfl 13 (by decide) fl45 (fun _ h9 => h9) rfl dX9_fitsAt_50 ?_
          refine lv_iload hx hb dX9_fitsAt_53 (lv_at hl 5 rfl) ?_
          obtain ⟨g16, hf⟩ := zt_gd_some hf
          refine va_iald hx hb hK hP 104 0 zt_a_104 rfl (zt_gI_in g16) dX9_fitsAt_55 ?_
          refine lv_iload_n hx hb dX9_fitsAt_56 rfl (lv_at hl 3 rfl) ?_
          refine lv_icmp_ne (tgt := 64) hx hb dX9_fitsAt_57 (by decide) (fun c17 => ?_) (fun c17 => ?_)
          · have hf := (if_neg c17).symm.trans hf
            exact B64 rc27 hrc27 u1 u2 u3 u4 u5 _ _ _ hf hP hS (lv_sub hl [0, 1, 2, 3, 4, 5] rfl)
          · have hf := (if_pos c17).symm.trans hf
            refine lv_iconst (v := 1) hx hb dX9_fitsAt_60 (by decide) ?_
            refine lv_goto (tgt := 65) hx hb dX9_fitsAt_61 (by decide) ?_
            exact B65 rc27 hrc27 1 u1 u2 u3 u4 u5 _ _ _ hf hP hS (lv_sub hl [0, 1, 2, 3, 4, 5] rfl)
  unfold f_X9_fitsAt at hf
  refine lv_aload_n hx hb dX9_fitsAt_0 rfl (lv_at hl 0 rfl) ?_
  refine va_get (D := zt_D G) (ci := 8) (v := .ref (zt_ad G 104)) (C := RX9) (T := TX9) (N := 37) hx hb hts inX9 hown hK hP 94 (zt_a8 (rfl : zt_kd 94 = 8)) rfl 13 (by decide) fl45 (fun _ h9 => h9) rfl dX9_fitsAt_1 ?_
  refine lv_iload_n hx hb dX9_fitsAt_4 rfl (lv_at hl 2 rfl) ?_
  obtain ⟨g1, hf⟩ := zt_gd_some hf
  refine va_iald hx hb hK hP 104 0 zt_a_104 rfl (zt_gI_in g1) dX9_fitsAt_5 ?_
  refine lv_istore_n (lv' := [(3, .int (σ 104 x2.toNatClampNeg)), (0, .ref (zt_ad G 94)), (1, .int x1), (2, .int x2)]) hx hb dX9_fitsAt_6 rfl hl (by decide) rfl (fun ls hl => ?_)
  refine lv_iload_n hx hb dX9_fitsAt_7 rfl (lv_at hl 0 rfl) ?_
  obtain ⟨v2, hvv2, hf⟩ := zt_bd_some hf
  refine va_calli (va_runS (As := [.int (σ 104 x2.toNatClampNeg)]) (rest := []) ⟨hx, hb, hml, hown, hts⟩ (m_X9_base l G (σ := σ) hvv2) (va_cwS 1 hts gX9_fitsAt_X9_base rfl rfl rfl zh_X9_base ⟨Nat.le_of_ble_eq_true rfl, Nat.le_of_ble_eq_true rfl⟩) ⟨zt_blind, fun U hU hW => ⟨rfl, zt_go hE hP hS zt_id hU hW⟩⟩ rfl rfl hl.1 rfl (lv_room (Nat.le_of_ble_eq_true rfl)) dX9_fitsAt_8 ⟨Nat.zero_le _, Nat.zero_le _⟩) hS (fun _ _ h => h) (fun _ h => h) (fun r u t H locs ht hvm hw hB _ _ hS => ?_)
  rw [hw.1]; have hB : zt_B G u t := hB; rw [hw.2] at hB; have hP := zt_B.P hB ht
  refine lv_aload_n hx hb dX9_fitsAt_11 rfl (lv_at hl 1 rfl) ?_
  refine va_get (D := zt_D G) (ci := 8) (v := .ref (zt_ad G 95)) (C := RX9) (T := TX9) (N := 37) hx hb hts inX9 hown hK hP 94 (zt_a8 (rfl : zt_kd 94 = 8)) rfl 3 (by decide) fl13 (fun _ h9 => h9) rfl dX9_fitsAt_12 ?_
  refine lv_iload_n hx hb dX9_fitsAt_15 rfl (lv_at hl 2 rfl) ?_
  obtain ⟨g4, hf⟩ := zt_gd_some hf
  refine va_iald hx hb hK hP 95 0 zt_a_95 rfl (zt_gI_in g4) dX9_fitsAt_16 ?_
  obtain ⟨v5, hvv5, hf⟩ := zt_bd_some hf
  refine va_calli (va_runS (As := [.int v2, .int (σ 95 x1.toNatClampNeg)]) (rest := []) ⟨hx, hb, hml, hown, hts⟩ (m_X9_isUnder l G (σ := σ) hvv5) (va_cwS 2 hts gX9_fitsAt_X9_isUnder rfl rfl rfl zh_X9_isUnder ⟨Nat.le_of_ble_eq_true rfl, Nat.le_of_ble_eq_true rfl⟩) ⟨zt_blind, fun U hU hW => ⟨rfl, zt_go hE hP hS zt_id hU hW⟩⟩ rfl rfl hl.1 rfl (lv_room (Nat.le_of_ble_eq_true rfl)) dX9_fitsAt_17 ⟨Nat.zero_le _, Nat.zero_le _⟩) hS (fun _ _ h => h) (fun _ h => h) (fun r u t H locs ht hvm hw hB _ _ hS => ?_)
  rw [hw.1]; have hB : zt_B G u t := hB; rw [hw.2] at hB; have hP := zt_B.P hB ht
  refine lv_istore (lv' := [(4, .int v5), (3, .int (σ 104 x2.toNatClampNeg)), (0, .ref (zt_ad G 94)), (1, .int x1), (2, .int x2)]) hx hb dX9_fitsAt_20 hl (by decide) rfl (fun ls hl => ?_)
  refine lv_sipush (v := 384) hx hb dX9_fitsAt_22 (by decide +kernel) ?_
  refine lv_istore (lv' := [(5, .int 384), (4, .int v5), (3, .int (σ 104 x2.toNatClampNeg)), (0, .ref (zt_ad G 94)), (1, .int x1), (2, .int x2)]) hx hb dX9_fitsAt_25 hl (by decide) rfl (fun ls hl => ?_)
  exact B27 zt_FU x1 x2 (σ 104 x2.toNatClampNeg) v5 384 _ _ _ hf hP hS (lv_sub hl [3, 4, 5, 2, 1, 0] rfl)

theorem zh_X9_fits : yX9_fits.cls = RX9 ∧ yX9_fits.cls ≠ "java/lang/invoke/MethodHandle" ∧ yX9_fits.cls ≠ "java/lang/invoke/VarHandle" ∧ (parseMethodDescriptor yX9_fits.desc).map (fun d => d.parameters.length) = some 1 := by decide +kernel
set_option maxHeartbeats 4000000 in
set_option maxRecDepth 100000 in
theorem m_X9_fits (l : Launch) (G : zt_G) {σ : zt_St} {x1 : Int32} {r : Int32} (hf : f_X9_fits σ x1 = some r) : zt_Mi l G yX9_fits wsX9_fits 4 91 [.ref (zt_ad G 94), .int x1] σ r σ := by
  refine Met.ofW (cc := cX9_fits) (maxL := 4) (ret := (some .boolean)) (by decide) rfl ?_
  intro p e s m args below meth c s₁ B hml hv
  obtain ⟨rfl, hBB⟩ := hv
  have hE := zt_B.env hBB; have hK := hE.2.1; have hP := hBB.2.1
  have hx := B.exec; have hb := B.bytes; have hr := B.returns; have hts := atoms_spec (ws := wsX9_fits) B.pre
  have hown : s.vm.findClass RX9 = some m.cls := findClass_of_methodNamed B.named
  have hlocks := B.notSynchronized
  have hS : va_S (zt_A G) s.heap s.heap [] := va_S.rf
  have hl := lv_entry ([.ref (zt_ad G 94), .int x1]) (n := 4) (Nat.le_of_ble_eq_true rfl)
  rw [lg_entry_eq]
  generalize (lg_sl ([.ref (zt_ad G 94), .int x1]) ++ List.replicate (4 - (lg_sl ([.ref (zt_ad G 94), .int x1])).length) Slot.unset).toArray = ls at hl ⊢
  have hl : lv_has ls 4 [(0, .ref (zt_ad G 94)), (1, .int x1)] := hl
  show W p l e (zt_R 4 91) s m ([.ref (zt_ad G 94), .int x1] : List Value).toArray below meth c s.heap [] 0 0 (MQ below (zt_Ci G r σ) ([.ref (zt_ad G 94), .int x1] : List Value).toArray s 0 0 (zt_A G)) (F0 m 0 ls [])
  have fl42 := hts (.fieldLink RX9 42 "ZoneTreeModel" "many" "[I") (List.mem_cons_of_mem _ (List.mem_append_left _ (List.mem_append_left _ (List.mem_of_getElem? (i := 0) rfl))))
  have inX9 : ∀ w ∈ wsX90, w ∈ wsX9_fits := fun w h => (List.mem_cons_of_mem _ (List.mem_append_right _ h))
  have B55 : ∀ (rc22 : Int32 → Int32 → Int32 → Option (Int32)) (hrc22 : ∀ (u1 : Int32) (u2 : Int32) (u3 : Int32) (H : Heap) (locs : List Loc) (ls : Array Slot), rc22 u1 u2 u3 = some r → va_P (zt_D G) vwCl (zt_ww G σ) H → va_S (zt_A G) s.heap H locs → lv_has ls 4 [(0, .ref (zt_ad G 94)), (1, .int u1), (2, .int u2), (3, .int u3)] → W p l e (zt_R 4 91) s m ([.ref (zt_ad G 94), .int x1] : List Value).toArray below meth c H locs 0 0 (MQ below (zt_Ci G r σ) ([.ref (zt_ad G 94), .int x1] : List Value).toArray s 0 0 (zt_A G)) (F0 m 22 ls [])), ∀ (y0 : Int32) (u1 : Int32) (u3 : Int32) (H : Heap) (locs : List Loc) (ls : Array Slot), f_X9_fits_55 σ rc22 y0 u1 u3 = some r → va_P (zt_D G) vwCl (zt_ww G σ) H → va_S (zt_A G) s.heap H locs → lv_has ls 4 [(0, .ref (zt_ad G 94)), (1, .int u1), (3, .int u3)] → W p l e (zt_R 4 91) s m ([.ref (zt_ad G 94), .int x1] : List Value).toArray below meth c H locs 0 0 (MQ below (zt_Ci G r σ) ([.ref (zt_ad G 94), .int x1] : List Value).toArray s 0 0 (zt_A G)) (F0 m 55 ls [.int y0]) := by
    intro rc22 hrc22 y0 u1 u3 H locs ls hf hP hS hl
    unfold f_X9_fits_55 at hf
    refine lv_istore_n (lv' := [(2, .int y0), (0, .ref (zt_ad G 94)), (1, .int u1), (3, .int u3)]) hx hb dX9_fits_55 rfl hl (by decide) rfl (fun ls hl => ?_)
    refine lv_iinc (v := (u3 + 1)) (lv' := [(3, .int (u3 + 1)), (2, .int y0), (0, .ref (zt_ad G 94)), (1, .int u1)]) hx hb dX9_fits_56 hl (k := 3) rfl rfl (by decide) rfl (fun ls hl => ?_)
    refine lv_goto (tgt := 22) hx hb dX9_fits_59 (by decide) ?_
    exact hrc22 u1 y0 (u3 + 1) _ _ _ hf hP hS (lv_sub hl [2, 3, 1, 0] rfl)
  have B54 : ∀ (rc22 : Int32 → Int32 → Int32 → Option (Int32)) (hrc22 : ∀ (u1 : Int32) (u2 : Int32) (u3 : Int32) (H : Heap) (locs : List Loc) (ls : Array Slot), rc22 u1 u2 u3 = some r → va_P (zt_D G) vwCl (zt_ww G σ) H → va_S (zt_A G) s.heap H locs → lv_has ls 4 [(0, .ref (zt_ad G 94)), (1, .int u1), (2, .int u2), (3, .int u3)] → W p l e (zt_R 4 91) s m ([.ref (zt_ad G 94), .int x1] : List Value).toArray below meth c H locs 0 0 (MQ below (zt_Ci G r σ) ([.ref (zt_ad G 94), .int x1] : List Value).toArray s 0 0 (zt_A G)) (F0 m 22 ls [])), ∀ (u1 : Int32) (u3 : Int32) (H : Heap) (locs : List Loc) (ls : Array Slot), f_X9_fits_54 σ rc22 u1 u3 = some r → va_P (zt_D G) vwCl (zt_ww G σ) H → va_S (zt_A G) s.heap H locs → lv_has ls 4 [(0, .ref (zt_ad G 94)), (1, .int u1), (3, .int u3)] → W p l e (zt_R 4 91) s m ([.ref (zt_ad G 94), .int x1] : List Value).toArray below meth c H locs 0 0 (MQ below (zt_Ci G r σ) ([.ref (zt_ad G 94), .int x1] : List Value).toArray s 0 0 (zt_A G)) (F0 m 54 ls []) := by
    intro rc22 hrc22 u1 u3 H locs ls hf hP hS hl
    unfold f_X9_fits_54 at hf
    refine lv_iconst (v := 0) hx hb dX9_fits_54 (by decide) ?_
    exact B55 rc22 hrc22 0 u1 u3 _ _ _ hf hP hS (lv_sub hl [0, 1, 2] rfl)
  have B22 : ∀ (n : Nat), ∀ (u1 : Int32) (u2 : Int32) (u3 : Int32) (H : Heap) (locs : List Loc) (ls : Array Slot), f_X9_fits_22 σ n u1 u2 u3 = some r → va_P (zt_D G) vwCl (zt_ww G σ) H → va_S (zt_A G) s.heap H locs → lv_has ls 4 [(0, .ref (zt_ad G 94)), (1, .int u1), (2, .int u2), (3, .int u3)] → W p l e (zt_R 4 91) s m ([.ref (zt_ad G 94), .int x1] : List Value).toArray below meth c H locs 0 0 (MQ below (zt_Ci G r σ) ([.ref (zt_ad G 94), .int x1] : List Value).toArray s 0 0 (zt_A G)) (F0 m 22 ls []) := by
    intro n
    induction n with
    | zero => intro u1 u2 u3 H locs ls hf; exact nomatch hf
    | succ n hrc22 =>
      intro u1 u2 u3 H locs ls hf hP hS hl
      generalize hrcg : f_X9_fits_22 σ n = rc22 at hrc22
      have hf : f_X9_fits_22b σ rc22 u1 u2 u3 = some r := by rw [← hrcg]; exact hf
      unfold f_X9_fits_22b at hf
      refine lv_iload_n hx hb dX9_fits_22 rfl (lv_at hl 3 rfl) ?_
      refine lv_sipush (v := 384) hx hb dX9_fits_23 (by decide +kernel) ?_
      refine lv_aload_n hx hb dX9_fits_26 rfl (lv_at hl 0 rfl) ?_
      refine va_get (D := zt_D G) (ci := 8) (v := .ref (zt_ad G 103)) (C := RX9) (T := TX9) (N := 37) hx hb hts inX9 hown hK hP 94 (zt_a8 (rfl : zt_kd 94 = 8)) rfl 12 (by decide) fl42 (fun _ h9 => h9) rfl dX9_fits_27 ?_
      refine lv_bipush (v := 12) hx hb dX9_fits_30 (by decide +kernel) ?_
      refine va_iald hx hb hK hP 103 0 zt_a_103 rfl (zt_gI_in (show zt_gI 12 13 = true by decide +kernel)) dX9_fits_32 ?_
      refine lv_iadd hx hb dX9_fits_33 ?_
      refine lv_icmp_ge (tgt := 62) hx hb dX9_fits_34 (by decide) (fun c4 => ?_) (fun c4 => ?_)
      · have hf := (if_pos c4).symm.trans hf
        refine lv_iload_n hx hb dX9_fits_62 rfl (lv_at hl 2 rfl) ?_
        obtain ⟨g5, hf⟩ := zt_gd_some hf
        exact W.zret hx hb hr (zt_bn g5).1 (fun t ht hW => ⟨⟨_, _, rfl, ⟨Option.some.inj hf, rfl⟩, zt_go hE hP hS zt_id ht hW⟩, hS.F ht⟩) hS.2.2 dX9_fits_63
      · have hf := (if_neg c4).symm.trans hf
        refine lv_iload_n hx hb dX9_fits_37 rfl (lv_at hl 2 rfl) ?_
        refine lv_if_eq (tgt := 54) hx hb dX9_fits_38 (by decide) (fun c6 => ?_) (fun c6 => ?_)
        · have hf := (if_pos c6).symm.trans hf
          exact B54 rc22 hrc22 u1 u3 _ _ _ hf hP hS (lv_sub hl [0, 1, 3] rfl)
        · have hf := (if_neg c6).symm.trans hf
          refine lv_aload_n hx hb dX9_fits_41 rfl (lv_at hl 0 rfl) ?_
          refine lv_iload_n hx hb dX9_fits_42 rfl (lv_at hl 1 rfl) ?_
          refine lv_iload_n hx hb dX9_fits_43 rfl (lv_at hl 3 rfl) ?_
          obtain ⟨v7, hvv7, hf⟩ := zt_bd_some hf
          refine va_calli (va_runV (As := [.int u1, .int u3]) (rest := []) ⟨hx, hb, hml, hown, hts⟩ (m_X9_fitsAt l G (σ := σ) hvv7) (cwV 2 hts gX9_fits_X9_fitsAt rfl rfl rfl zh_X9_fitsAt ⟨Nat.le_of_ble_eq_true rfl, Nat.le_of_ble_eq_true rfl⟩) ⟨zt_blind, va_recv hK hP (ci := 8) (q0 := 94) rfl (zt_a8 (rfl : zt_kd 94 = 8)), fun U hU hW => ⟨rfl, zt_go hE hP hS zt_id hU hW⟩⟩ rfl rfl hl.1 rfl (lv_room (Nat.le_of_ble_eq_true rfl)) dX9_fits_44 ⟨Nat.zero_le _, Nat.zero_le _⟩) hS (fun _ _ h => h) (fun _ h => h) (fun r u t H locs ht hvm hw hB _ _ hS => ?_)
          rw [hw.1]; have hB : zt_B G u t := hB; rw [hw.2] at hB; have hP := zt_B.P hB ht
          refine lv_if_eq (tgt := 54) hx hb dX9_fits_47 (by decide) (fun c9 => ?_) (fun c9 => ?_)
          · have hf := (if_pos c9).symm.trans hf
            exact B54 rc22 hrc22 u1 u3 _ _ _ hf hP hS (lv_sub hl [0, 1, 3] rfl)
          · have hf := (if_neg c9).symm.trans hf
            refine lv_iconst (v := 1) hx hb dX9_fits_50 (by decide) ?_
            refine lv_goto (tgt := 55) hx hb dX9_fits_51 (by decide) ?_
            exact B55 rc22 hrc22 1 u1 u3 _ _ _ hf hP hS (lv_sub hl [0, 1, 3] rfl)
  have B17 : ∀ (y0 : Int32) (u1 : Int32) (H : Heap) (locs : List Loc) (ls : Array Slot), f_X9_fits_17 σ y0 u1 = some r → va_P (zt_D G) vwCl (zt_ww G σ) H → va_S (zt_A G) s.heap H locs → lv_has ls 4 [(0, .ref (zt_ad G 94)), (1, .int u1)] → W p l e (zt_R 4 91) s m ([.ref (zt_ad G 94), .int x1] : List Value).toArray below meth c H locs 0 0 (MQ below (zt_Ci G r σ) ([.ref (zt_ad G 94), .int x1] : List Value).toArray s 0 0 (zt_A G)) (F0 m 17 ls [.int y0]) := by
    intro y0 u1 H locs ls hf hP hS hl
    unfold f_X9_fits_17 at hf
    refine lv_istore_n (lv' := [(2, .int y0), (0, .ref (zt_ad G 94)), (1, .int u1)]) hx hb dX9_fits_17 rfl hl (by decide) rfl (fun ls hl => ?_)
    refine lv_sipush (v := 384) hx hb dX9_fits_18 (by decide +kernel) ?_
    refine lv_istore_n (lv' := [(3, .int 384), (2, .int y0), (0, .ref (zt_ad G 94)), (1, .int u1)]) hx hb dX9_fits_21 rfl hl (by decide) rfl (fun ls hl => ?_)
    exact B22 zt_FU u1 y0 384 _ _ _ hf hP hS (lv_sub hl [2, 3, 1, 0] rfl)
  unfold f_X9_fits at hf
  refine lv_aload_n hx hb dX9_fits_0 rfl (lv_at hl 0 rfl) ?_
  refine va_get (D := zt_D G) (ci := 8) (v := .ref (zt_ad G 103)) (C := RX9) (T := TX9) (N := 37) hx hb hts inX9 hown hK hP 94 (zt_a8 (rfl : zt_kd 94 = 8)) rfl 12 (by decide) fl42 (fun _ h9 => h9) rfl dX9_fits_1 ?_
  refine lv_bipush (v := 12) hx hb dX9_fits_4 (by decide +kernel) ?_
  refine va_iald hx hb hK hP 103 0 zt_a_103 rfl (zt_gI_in (show zt_gI 12 13 = true by decide +kernel)) dX9_fits_6 ?_
  refine lv_bipush (v := 20) hx hb dX9_fits_7 (by decide +kernel) ?_
  refine lv_icmp_gt (tgt := 16) hx hb dX9_fits_9 (by decide) (fun c2 => ?_) (fun c2 => ?_)
  · have hf := (if_pos c2).symm.trans hf
    refine lv_iconst (v := 0) hx hb dX9_fits_16 (by decide) ?_
    exact B17 0 x1 _ _ _ hf hP hS (lv_sub hl [0, 1] rfl)
  · have hf := (if_neg c2).symm.trans hf
    refine lv_iconst (v := 1) hx hb dX9_fits_12 (by decide) ?_
    refine lv_goto (tgt := 17) hx hb dX9_fits_13 (by decide) ?_
    exact B17 1 x1 _ _ _ hf hP hS (lv_sub hl [0, 1] rfl)

theorem zh_X9_isZone : yX9_isZone.cls = RX9 ∧ yX9_isZone.cls ≠ "java/lang/invoke/MethodHandle" ∧ yX9_isZone.cls ≠ "java/lang/invoke/VarHandle" ∧ (parseMethodDescriptor yX9_isZone.desc).map (fun d => d.parameters.length) = some 1 := by decide +kernel
set_option maxHeartbeats 4000000 in
set_option maxRecDepth 100000 in
theorem m_X9_isZone (l : Launch) (G : zt_G) {σ : zt_St} {x1 : Int32} {r : Int32} (hf : f_X9_isZone σ x1 = some r) : zt_Mi l G yX9_isZone wsX9_isZone 1 22 [.ref (zt_ad G 94), .int x1] σ r σ := by
  refine Met.ofW (cc := cX9_isZone) (maxL := 2) (ret := (some .boolean)) (by decide) rfl ?_
  intro p e s m args below meth c s₁ B hml hv
  obtain ⟨rfl, hBB⟩ := hv
  have hE := zt_B.env hBB; have hK := hE.2.1; have hP := hBB.2.1
  have hx := B.exec; have hb := B.bytes; have hr := B.returns; have hts := atoms_spec (ws := wsX9_isZone) B.pre
  have hown : s.vm.findClass RX9 = some m.cls := findClass_of_methodNamed B.named
  have hlocks := B.notSynchronized
  have hS : va_S (zt_A G) s.heap s.heap [] := va_S.rf
  have hl := lv_entry ([.ref (zt_ad G 94), .int x1]) (n := 2) (Nat.le_of_ble_eq_true rfl)
  rw [lg_entry_eq]
  generalize (lg_sl ([.ref (zt_ad G 94), .int x1]) ++ List.replicate (2 - (lg_sl ([.ref (zt_ad G 94), .int x1])).length) Slot.unset).toArray = ls at hl ⊢
  have hl : lv_has ls 2 [(0, .ref (zt_ad G 94)), (1, .int x1)] := hl
  show W p l e (zt_R 1 22) s m ([.ref (zt_ad G 94), .int x1] : List Value).toArray below meth c s.heap [] 0 0 (MQ below (zt_Ci G r σ) ([.ref (zt_ad G 94), .int x1] : List Value).toArray s 0 0 (zt_A G)) (F0 m 0 ls [])
  have fl7 := hts (.fieldLink RX9 7 "ZoneTreeModel" "zones" "I") (List.mem_cons_of_mem _ (List.mem_append_left _ (List.mem_of_getElem? (i := 0) rfl)))
  have inX9 : ∀ w ∈ wsX90, w ∈ wsX9_isZone := fun w h => (List.mem_cons_of_mem _ (List.mem_append_right _ h))
  unfold f_X9_isZone at hf
  refine lv_iload_n hx hb dX9_isZone_0 rfl (lv_at hl 1 rfl) ?_
  refine lv_iconst (v := 0) hx hb dX9_isZone_1 (by decide) ?_
  refine lv_aload_n hx hb dX9_isZone_2 rfl (lv_at hl 0 rfl) ?_
  refine va_get (D := zt_D G) (ci := 8) (v := .int (σ 94 2)) (C := RX9) (T := TX9) (N := 37) hx hb hts inX9 hown hK hP 94 (zt_a8 (rfl : zt_kd 94 = 8)) rfl 2 (by decide) fl7 (fun _ h9 => h9) rfl dX9_isZone_3 ?_
  refine lv_iconst (v := 1) hx hb dX9_isZone_6 (by decide) ?_
  refine lv_isub hx hb dX9_isZone_7 ?_
  obtain ⟨v1, hvv1, hf⟩ := zt_bd_some hf
  refine va_calli (va_runS (As := [.int x1, .int 0, .int ((σ 94 2) - 1)]) (rest := []) ⟨hx, hb, hml, hown, hts⟩ (m_X9_in l G (σ := σ) hvv1) (va_cwS 3 hts gX9_isZone_X9_in rfl rfl rfl zh_X9_in ⟨Nat.le_of_ble_eq_true rfl, Nat.le_of_ble_eq_true rfl⟩) ⟨zt_blind, fun U hU hW => ⟨rfl, zt_go hE hP hS zt_id hU hW⟩⟩ rfl rfl hl.1 rfl (lv_room (Nat.le_of_ble_eq_true rfl)) dX9_isZone_8 ⟨Nat.zero_le _, Nat.zero_le _⟩) hS (fun _ _ h => h) (fun _ h => h) (fun r u t H locs ht hvm hw hB _ _ hS => ?_)
  rw [hw.1]; have hB : zt_B G u t := hB; rw [hw.2] at hB; have hP := zt_B.P hB ht
  obtain ⟨g3, hf⟩ := zt_gd_some hf
  exact W.zret hx hb hr (zt_bn g3).1 (fun t ht hW => ⟨⟨_, _, rfl, ⟨Option.some.inj hf, rfl⟩, zt_go hE hP hS zt_id ht hW⟩, hS.F ht⟩) hS.2.2 dX9_isZone_11

theorem zh_X9_zone : yX9_zone.cls = RX9 ∧ yX9_zone.cls ≠ "java/lang/invoke/MethodHandle" ∧ yX9_zone.cls ≠ "java/lang/invoke/VarHandle" ∧ (parseMethodDescriptor yX9_zone.desc).map (fun d => d.parameters.length) = some 2 := by decide +kernel
set_option maxHeartbeats 4000000 in
set_option maxRecDepth 100000 in
theorem m_X9_zone (l : Launch) (G : zt_G) {σ : zt_St} {x1 : Int32} {x2 : Int32} {r : Int32} {σ1 : zt_St} (hf : f_X9_zone σ x1 x2 = some (r, σ1)) : zt_Mi l G yX9_zone wsX9_zone 2 44 [.ref (zt_ad G 94), .int x1, .int x2] σ r σ1 := by
  refine Met.ofW (cc := cX9_zone) (maxL := 5) (ret := (some .int)) (by decide) rfl ?_
  intro p e s m args below meth c s₁ B hml hv
  obtain ⟨rfl, hBB⟩ := hv
  have hE := zt_B.env hBB; have hK := hE.2.1; have hP := hBB.2.1
  have hx := B.exec; have hb := B.bytes; have hr := B.returns; have hts := atoms_spec (ws := wsX9_zone) B.pre
  have hown : s.vm.findClass RX9 = some m.cls := findClass_of_methodNamed B.named
  have hlocks := B.notSynchronized
  have hS : va_S (zt_A G) s.heap s.heap [] := va_S.rf
  have hl := lv_entry ([.ref (zt_ad G 94), .int x1, .int x2]) (n := 5) (Nat.le_of_ble_eq_true rfl)
  rw [lg_entry_eq]
  generalize (lg_sl ([.ref (zt_ad G 94), .int x1, .int x2]) ++ List.replicate (5 - (lg_sl ([.ref (zt_ad G 94), .int x1, .int x2])).length) Slot.unset).toArray = ls at hl ⊢
  have hl : lv_has ls 5 [(0, .ref (zt_ad G 94)), (1, .int x1), (2, .int x2)] := hl
  show W p l e (zt_R 2 44) s m ([.ref (zt_ad G 94), .int x1, .int x2] : List Value).toArray below meth c s.heap [] 0 0 (MQ below (zt_Ci G r σ1) ([.ref (zt_ad G 94), .int x1, .int x2] : List Value).toArray s 0 0 (zt_A G)) (F0 m 0 ls [])
  have fl7 := hts (.fieldLink RX9 7 "ZoneTreeModel" "zones" "I") (List.mem_cons_of_mem _ (List.mem_append_left _ (List.mem_of_getElem? (i := 0) rfl)))
  have fl13 := hts (.fieldLink RX9 13 "ZoneTreeModel" "apex" "[I") (List.mem_cons_of_mem _ (List.mem_append_left _ (List.mem_of_getElem? (i := 1) rfl)))
  have fl17 := hts (.fieldLink RX9 17 "ZoneTreeModel" "lack" "[I") (List.mem_cons_of_mem _ (List.mem_append_left _ (List.mem_of_getElem? (i := 2) rfl)))
  have inX9 : ∀ w ∈ wsX90, w ∈ wsX9_zone := fun w h => (List.mem_cons_of_mem _ (List.mem_append_right _ h))
  have B79 : ∀ (σ : zt_St) (y0 : Int32) (u1 : Int32) (u2 : Int32) (u3 : Int32) (H : Heap) (locs : List Loc) (ls : Array Slot), f_X9_zone_79 σ y0 u1 u2 u3 = some (r, σ1) → va_P (zt_D G) vwCl (zt_ww G σ) H → va_S (zt_A G) s.heap H locs → lv_has ls 5 [(0, .ref (zt_ad G 94)), (1, .int u1), (2, .int u2), (3, .int u3)] → W p l e (zt_R 2 44) s m ([.ref (zt_ad G 94), .int x1, .int x2] : List Value).toArray below meth c H locs 0 0 (MQ below (zt_Ci G r σ1) ([.ref (zt_ad G 94), .int x1, .int x2] : List Value).toArray s 0 0 (zt_A G)) (F0 m 79 ls [.int y0, .ref (zt_ad G 94)]) := by
    intro σ y0 u1 u2 u3 H locs ls hf hP hS hl
    unfold f_X9_zone_79 at hf
    refine lv_iload_n hx hb dX9_zone_79 rfl (lv_at hl 3 rfl) ?_
    obtain ⟨⟨v12a, σ13a⟩, hvv12, hf⟩ := zt_bd_some hf
    obtain ⟨v12, hv12, hf⟩ := zt_lt_some hf; obtain ⟨σ13, hσ13, hf⟩ := zt_lt_some hf; rw [show (v12a, σ13a) = (v12, σ13) from by rw [hv12, hσ13]] at hvv12
    refine va_calli (va_runV (As := [.int y0, .int u3]) (rest := []) ⟨hx, hb, hml, hown, hts⟩ (m_X9_asked_ l G (σ := σ) hvv12) (cwV 2 hts gX9_zone_X9_asked_ rfl rfl rfl zh_X9_asked_ ⟨Nat.le_of_ble_eq_true rfl, Nat.le_of_ble_eq_true rfl⟩) ⟨zt_blind, va_recv hK hP (ci := 8) (q0 := 94) rfl (zt_a8 (rfl : zt_kd 94 = 8)), fun U hU hW => ⟨rfl, zt_go hE hP hS zt_id hU hW⟩⟩ rfl rfl hl.1 rfl (lv_room (Nat.le_of_ble_eq_true rfl)) dX9_zone_80 ⟨Nat.zero_le _, Nat.zero_le _⟩) hS (fun _ _ h => h) (fun _ h => h) (fun r u t H locs ht hvm hw hB _ _ hS => ?_)
    rw [hw.1]; have hB : zt_B G u t := hB; rw [hw.2] at hB; have hP := zt_B.P hB ht
    refine lv_if_ne (tgt := 88) hx hb dX9_zone_83 (by decide) (fun c15 => ?_) (fun c15 => ?_)
    · have hf := (if_neg c15).symm.trans hf
      refine lv_aload_n hx hb dX9_zone_88 rfl (lv_at hl 0 rfl) ?_
      refine va_get (D := zt_D G) (ci := 8) (v := .ref (zt_ad G 95)) (C := RX9) (T := TX9) (N := 37) hx hb hts inX9 hown hK hP 94 (zt_a8 (rfl : zt_kd 94 = 8)) rfl 3 (by decide) fl13 (fun _ h9 => h9) rfl dX9_zone_89 ?_
      refine lv_aload_n hx hb dX9_zone_92 rfl (lv_at hl 0 rfl) ?_
      refine va_get (D := zt_D G) (ci := 8) (v := .int (σ13 94 2)) (C := RX9) (T := TX9) (N := 37) hx hb hts inX9 hown hK hP 94 (zt_a8 (rfl : zt_kd 94 = 8)) rfl 2 (by decide) fl7 (fun _ h9 => h9) rfl dX9_zone_93 ?_
      refine lv_iload_n hx hb dX9_zone_96 rfl (lv_at hl 1 rfl) ?_
      obtain ⟨g16, hf⟩ := zt_gd_some hf
      obtain ⟨σ17, hσ17, hf⟩ := zt_lt_some hf
      refine va_iast hx hb hK hP (zt_apart hE.1) hS 95 0 zt_a_95 rfl (zt_gI_in g16) dX9_zone_97 (fun H locs hP _ hS => ?_)
      rw [zt_p_95, ← hσ17] at hP
      refine lv_aload_n hx hb dX9_zone_98 rfl (lv_at hl 0 rfl) ?_
      refine va_get (D := zt_D G) (ci := 8) (v := .ref (zt_ad G 96)) (C := RX9) (T := TX9) (N := 37) hx hb hts inX9 hown hK hP 94 (zt_a8 (rfl : zt_kd 94 = 8)) rfl 4 (by decide) fl17 (fun _ h9 => h9) rfl dX9_zone_99 ?_
      refine lv_aload_n hx hb dX9_zone_102 rfl (lv_at hl 0 rfl) ?_
      refine va_get (D := zt_D G) (ci := 8) (v := .int (σ17 94 2)) (C := RX9) (T := TX9) (N := 37) hx hb hts inX9 hown hK hP 94 (zt_a8 (rfl : zt_kd 94 = 8)) rfl 2 (by decide) fl7 (fun _ h9 => h9) rfl dX9_zone_103 ?_
      refine lv_iload_n hx hb dX9_zone_106 rfl (lv_at hl 2 rfl) ?_
      obtain ⟨g18, hf⟩ := zt_gd_some hf
      obtain ⟨σ19, hσ19, hf⟩ := zt_lt_some hf
      refine va_iast hx hb hK hP (zt_apart hE.1) hS 96 0 zt_a_96 rfl (zt_gI_in g18) dX9_zone_107 (fun H locs hP _ hS => ?_)
      rw [zt_p_96, ← hσ19] at hP
      refine lv_aload_n hx hb dX9_zone_108 rfl (lv_at hl 0 rfl) ?_
      refine lv_dup hx hb dX9_zone_109 rfl ?_
      refine va_get (D := zt_D G) (ci := 8) (v := .int (σ19 94 2)) (C := RX9) (T := TX9) (N := 37) hx hb hts inX9 hown hK hP 94 (zt_a8 (rfl : zt_kd 94 = 8)) rfl 2 (by decide) fl7 (fun _ h9 => h9) rfl dX9_zone_110 ?_
      refine lv_iconst (v := 1) hx hb dX9_zone_113 (by decide) ?_
      refine lv_iadd hx hb dX9_zone_114 ?_
      obtain ⟨σ20, hσ20, hf⟩ := zt_lt_some hf
      refine va_put (D := zt_D G) (ci := 8) (v := .int ((σ19 94 2) + 1)) (ty := .int) (C := RX9) (T := TX9) (N := 37) hx hb hts inX9 tyX9 tyX9_ok nmX9 hown hK hP (zt_apart hE.1) hS 94 (zt_a8 (rfl : zt_kd 94 = 8)) rfl 2 (by decide) fl7 (fun _ h9 => h9) rfl (tyX9_ok 2 (by decide)) rfl rfl (Nat.le_of_ble_eq_true rfl) dX9_zone_115 (fun H locs hP _ hS => ?_)
      rw [zt_p8_2 (rfl : zt_kd 94 = 8), ← hσ20] at hP
      refine lv_aload_n hx hb dX9_zone_118 rfl (lv_at hl 0 rfl) ?_
      refine va_get (D := zt_D G) (ci := 8) (v := .int (σ20 94 2)) (C := RX9) (T := TX9) (N := 37) hx hb hts inX9 hown hK hP 94 (zt_a8 (rfl : zt_kd 94 = 8)) rfl 2 (by decide) fl7 (fun _ h9 => h9) rfl dX9_zone_119 ?_
      refine lv_iconst (v := 1) hx hb dX9_zone_122 (by decide) ?_
      refine lv_isub hx hb dX9_zone_123 ?_
      exact W.iret hx hb hr (fun t ht hW => ⟨⟨_, _, rfl, (Prod.mk.inj (Option.some.inj hf)), zt_go hE hP hS zt_id ht hW⟩, hS.F ht⟩) hS.2.2 dX9_zone_124
    · have hf := (if_pos c15).symm.trans hf
      refine lv_iconst (v := 0) hx hb dX9_zone_86 (by decide) ?_
      exact W.iret hx hb hr (fun t ht hW => ⟨⟨_, _, rfl, (Prod.mk.inj (Option.some.inj hf)), zt_go hE hP hS zt_id ht hW⟩, hS.F ht⟩) hS.2.2 dX9_zone_87
  have B78 : ∀ (σ : zt_St) (u1 : Int32) (u2 : Int32) (u3 : Int32) (H : Heap) (locs : List Loc) (ls : Array Slot), f_X9_zone_78 σ u1 u2 u3 = some (r, σ1) → va_P (zt_D G) vwCl (zt_ww G σ) H → va_S (zt_A G) s.heap H locs → lv_has ls 5 [(0, .ref (zt_ad G 94)), (1, .int u1), (2, .int u2), (3, .int u3)] → W p l e (zt_R 2 44) s m ([.ref (zt_ad G 94), .int x1, .int x2] : List Value).toArray below meth c H locs 0 0 (MQ below (zt_Ci G r σ1) ([.ref (zt_ad G 94), .int x1, .int x2] : List Value).toArray s 0 0 (zt_A G)) (F0 m 78 ls [.ref (zt_ad G 94)]) := by
    intro σ u1 u2 u3 H locs ls hf hP hS hl
    unfold f_X9_zone_78 at hf
    refine lv_iconst (v := 0) hx hb dX9_zone_78 (by decide) ?_
    exact B79 σ 0 u1 u2 u3 _ _ _ hf hP hS (lv_sub hl [0, 1, 2, 3] rfl)
  have B44 : ∀ (rc18 : zt_St → Int32 → Int32 → Int32 → Int32 → Option (Int32 × zt_St)) (hrc18 : ∀ (σ : zt_St) (u1 : Int32) (u2 : Int32) (u3 : Int32) (u4 : Int32) (H : Heap) (locs : List Loc) (ls : Array Slot), rc18 σ u1 u2 u3 u4 = some (r, σ1) → va_P (zt_D G) vwCl (zt_ww G σ) H → va_S (zt_A G) s.heap H locs → lv_has ls 5 [(0, .ref (zt_ad G 94)), (1, .int u1), (2, .int u2), (3, .int u3), (4, .int u4)] → W p l e (zt_R 2 44) s m ([.ref (zt_ad G 94), .int x1, .int x2] : List Value).toArray below meth c H locs 0 0 (MQ below (zt_Ci G r σ1) ([.ref (zt_ad G 94), .int x1, .int x2] : List Value).toArray s 0 0 (zt_A G)) (F0 m 18 ls [])), ∀ (σ : zt_St) (y0 : Int32) (y1 : Int32) (u1 : Int32) (u2 : Int32) (u4 : Int32) (H : Heap) (locs : List Loc) (ls : Array Slot), f_X9_zone_44 rc18 σ y0 y1 u1 u2 u4 = some (r, σ1) → va_P (zt_D G) vwCl (zt_ww G σ) H → va_S (zt_A G) s.heap H locs → lv_has ls 5 [(0, .ref (zt_ad G 94)), (1, .int u1), (2, .int u2), (4, .int u4)] → W p l e (zt_R 2 44) s m ([.ref (zt_ad G 94), .int x1, .int x2] : List Value).toArray below meth c H locs 0 0 (MQ below (zt_Ci G r σ1) ([.ref (zt_ad G 94), .int x1, .int x2] : List Value).toArray s 0 0 (zt_A G)) (F0 m 44 ls [.int y0, .int y1]) := by
    intro rc18 hrc18 σ y0 y1 u1 u2 u4 H locs ls hf hP hS hl
    unfold f_X9_zone_44 at hf
    refine lv_iand hx hb dX9_zone_44 ?_
    refine lv_istore_n (lv' := [(3, .int (y1 &&& y0)), (0, .ref (zt_ad G 94)), (1, .int u1), (2, .int u2), (4, .int u4)]) hx hb dX9_zone_45 rfl hl (by decide) rfl (fun ls hl => ?_)
    refine lv_iinc (v := (u4 + 1)) (lv' := [(4, .int (u4 + 1)), (3, .int (y1 &&& y0)), (0, .ref (zt_ad G 94)), (1, .int u1), (2, .int u2)]) hx hb dX9_zone_46 hl (k := 4) rfl rfl (by decide) rfl (fun ls hl => ?_)
    refine lv_goto (tgt := 18) hx hb dX9_zone_49 (by decide) ?_
    exact hrc18 σ u1 u2 (y1 &&& y0) (u4 + 1) _ _ _ hf hP hS (lv_sub hl [2, 3, 4, 1, 0] rfl)
  have B18 : ∀ (n : Nat), ∀ (σ : zt_St) (u1 : Int32) (u2 : Int32) (u3 : Int32) (u4 : Int32) (H : Heap) (locs : List Loc) (ls : Array Slot), f_X9_zone_18 n σ u1 u2 u3 u4 = some (r, σ1) → va_P (zt_D G) vwCl (zt_ww G σ) H → va_S (zt_A G) s.heap H locs → lv_has ls 5 [(0, .ref (zt_ad G 94)), (1, .int u1), (2, .int u2), (3, .int u3), (4, .int u4)] → W p l e (zt_R 2 44) s m ([.ref (zt_ad G 94), .int x1, .int x2] : List Value).toArray below meth c H locs 0 0 (MQ below (zt_Ci G r σ1) ([.ref (zt_ad G 94), .int x1, .int x2] : List Value).toArray s 0 0 (zt_A G)) (F0 m 18 ls []) := by
    intro n
    induction n with
    | zero => intro σ u1 u2 u3 u4 H locs ls hf; exact nomatch hf
    | succ n hrc18 =>
      intro σ u1 u2 u3 u4 H locs ls hf hP hS hl
      generalize hrcg : f_X9_zone_18 n = rc18 at hrc18
      have hf : f_X9_zone_18b rc18 σ u1 u2 u3 u4 = some (r, σ1) := by rw [← hrcg]; exact hf
      unfold f_X9_zone_18b at hf
      refine lv_iload hx hb dX9_zone_18 (lv_at hl 4 rfl) ?_
      refine lv_aload_n hx hb dX9_zone_20 rfl (lv_at hl 0 rfl) ?_
      refine va_get (D := zt_D G) (ci := 8) (v := .int (σ 94 2)) (C := RX9) (T := TX9) (N := 37) hx hb hts inX9 hown hK hP 94 (zt_a8 (rfl : zt_kd 94 = 8)) rfl 2 (by decide) fl7 (fun _ h9 => h9) rfl dX9_zone_21 ?_
      refine lv_icmp_ge (tgt := 52) hx hb dX9_zone_24 (by decide) (fun c2 => ?_) (fun c2 => ?_)
      · have hf := (if_pos c2).symm.trans hf
        refine lv_aload_n hx hb dX9_zone_52 rfl (lv_at hl 0 rfl) ?_
        refine lv_iload_n hx hb dX9_zone_53 rfl (lv_at hl 1 rfl) ?_
        obtain ⟨v3, hvv3, hf⟩ := zt_bd_some hf
        refine va_calli (va_runS (As := [.int u1]) (rest := [.ref (zt_ad G 94)]) ⟨hx, hb, hml, hown, hts⟩ (m_X9_isName l G (σ := σ) hvv3) (va_cwS 1 hts gX9_zone_X9_isName rfl rfl rfl zh_X9_isName ⟨Nat.le_of_ble_eq_true rfl, Nat.le_of_ble_eq_true rfl⟩) ⟨zt_blind, fun U hU hW => ⟨rfl, zt_go hE hP hS zt_id hU hW⟩⟩ rfl rfl hl.1 rfl (lv_room (Nat.le_of_ble_eq_true rfl)) dX9_zone_54 ⟨Nat.zero_le _, Nat.zero_le _⟩) hS (fun _ _ h => h) (fun _ h => h) (fun r u t H locs ht hvm hw hB _ _ hS => ?_)
        rw [hw.1]; have hB : zt_B G u t := hB; rw [hw.2] at hB; have hP := zt_B.P hB ht
        refine lv_if_eq (tgt := 78) hx hb dX9_zone_57 (by decide) (fun c5 => ?_) (fun c5 => ?_)
        · have hf := (if_pos c5).symm.trans hf
          exact B78 σ u1 u2 u3 _ _ _ hf hP hS (lv_sub hl [0, 1, 2, 3] rfl)
        · have hf := (if_neg c5).symm.trans hf
          refine lv_iload_n hx hb dX9_zone_60 rfl (lv_at hl 1 rfl) ?_
          refine lv_if_le (tgt := 78) hx hb dX9_zone_61 (by decide) (fun c6 => ?_) (fun c6 => ?_)
          · have hf := (if_pos c6).symm.trans hf
            exact B78 σ u1 u2 u3 _ _ _ hf hP hS (lv_sub hl [0, 1, 2, 3] rfl)
          · have hf := (if_neg c6).symm.trans hf
            refine lv_iload_n hx hb dX9_zone_64 rfl (lv_at hl 2 rfl) ?_
            refine lv_iconst (v := 1) hx hb dX9_zone_65 (by decide) ?_
            refine lv_bipush (v := 50) hx hb dX9_zone_66 (by decide +kernel) ?_
            obtain ⟨v7, hvv7, hf⟩ := zt_bd_some hf
            refine va_calli (va_runS (As := [.int u2, .int 1, .int 50]) (rest := [.ref (zt_ad G 94)]) ⟨hx, hb, hml, hown, hts⟩ (m_X9_in l G (σ := σ) hvv7) (va_cwS 3 hts gX9_zone_X9_in rfl rfl rfl zh_X9_in ⟨Nat.le_of_ble_eq_true rfl, Nat.le_of_ble_eq_true rfl⟩) ⟨zt_blind, fun U hU hW => ⟨rfl, zt_go hE hP hS zt_id hU hW⟩⟩ rfl rfl hl.1 rfl (lv_room (Nat.le_of_ble_eq_true rfl)) dX9_zone_68 ⟨Nat.zero_le _, Nat.zero_le _⟩) hS (fun _ _ h => h) (fun _ h => h) (fun r u t H locs ht hvm hw hB _ _ hS => ?_)
            rw [hw.1]; have hB : zt_B G u t := hB; rw [hw.2] at hB; have hP := zt_B.P hB ht
            refine lv_if_eq (tgt := 78) hx hb dX9_zone_71 (by decide) (fun c9 => ?_) (fun c9 => ?_)
            · have hf := (if_pos c9).symm.trans hf
              exact B78 σ u1 u2 u3 _ _ _ hf hP hS (lv_sub hl [0, 1, 2, 3] rfl)
            · have hf := (if_neg c9).symm.trans hf
              refine lv_iconst (v := 1) hx hb dX9_zone_74 (by decide) ?_
              refine lv_goto (tgt := 79) hx hb dX9_zone_75 (by decide) ?_
              exact B79 σ 1 u1 u2 u3 _ _ _ hf hP hS (lv_sub hl [0, 1, 2, 3] rfl)
      · have hf := (if_neg c2).symm.trans hf
        refine lv_iload_n hx hb dX9_zone_27 rfl (lv_at hl 3 rfl) ?_
        refine lv_aload_n hx hb dX9_zone_28 rfl (lv_at hl 0 rfl) ?_
        refine va_get (D := zt_D G) (ci := 8) (v := .ref (zt_ad G 95)) (C := RX9) (T := TX9) (N := 37) hx hb hts inX9 hown hK hP 94 (zt_a8 (rfl : zt_kd 94 = 8)) rfl 3 (by decide) fl13 (fun _ h9 => h9) rfl dX9_zone_29 ?_
        refine lv_iload hx hb dX9_zone_32 (lv_at hl 4 rfl) ?_
        obtain ⟨g10, hf⟩ := zt_gd_some hf
        refine va_iald hx hb hK hP 95 0 zt_a_95 rfl (zt_gI_in g10) dX9_zone_34 ?_
        refine lv_iload_n hx hb dX9_zone_35 rfl (lv_at hl 1 rfl) ?_
        refine lv_icmp_eq (tgt := 43) hx hb dX9_zone_36 (by decide) (fun c11 => ?_) (fun c11 => ?_)
        · have hf := (if_pos c11).symm.trans hf
          refine lv_iconst (v := 0) hx hb dX9_zone_43 (by decide) ?_
          exact B44 rc18 hrc18 σ 0 u3 u1 u2 u4 _ _ _ hf hP hS (lv_sub hl [0, 1, 2, 4] rfl)
        · have hf := (if_neg c11).symm.trans hf
          refine lv_iconst (v := 1) hx hb dX9_zone_39 (by decide) ?_
          refine lv_goto (tgt := 44) hx hb dX9_zone_40 (by decide) ?_
          exact B44 rc18 hrc18 σ 1 u3 u1 u2 u4 _ _ _ hf hP hS (lv_sub hl [0, 1, 2, 4] rfl)
  have B14 : ∀ (σ : zt_St) (y0 : Int32) (u1 : Int32) (u2 : Int32) (H : Heap) (locs : List Loc) (ls : Array Slot), f_X9_zone_14 σ y0 u1 u2 = some (r, σ1) → va_P (zt_D G) vwCl (zt_ww G σ) H → va_S (zt_A G) s.heap H locs → lv_has ls 5 [(0, .ref (zt_ad G 94)), (1, .int u1), (2, .int u2)] → W p l e (zt_R 2 44) s m ([.ref (zt_ad G 94), .int x1, .int x2] : List Value).toArray below meth c H locs 0 0 (MQ below (zt_Ci G r σ1) ([.ref (zt_ad G 94), .int x1, .int x2] : List Value).toArray s 0 0 (zt_A G)) (F0 m 14 ls [.int y0]) := by
    intro σ y0 u1 u2 H locs ls hf hP hS hl
    unfold f_X9_zone_14 at hf
    refine lv_istore_n (lv' := [(3, .int y0), (0, .ref (zt_ad G 94)), (1, .int u1), (2, .int u2)]) hx hb dX9_zone_14 rfl hl (by decide) rfl (fun ls hl => ?_)
    refine lv_iconst (v := 0) hx hb dX9_zone_15 (by decide) ?_
    refine lv_istore (lv' := [(4, .int 0), (3, .int y0), (0, .ref (zt_ad G 94)), (1, .int u1), (2, .int u2)]) hx hb dX9_zone_16 hl (by decide) rfl (fun ls hl => ?_)
    exact B18 zt_FU σ u1 u2 y0 0 _ _ _ hf hP hS (lv_sub hl [2, 3, 4, 1, 0] rfl)
  unfold f_X9_zone at hf
  refine lv_aload_n hx hb dX9_zone_0 rfl (lv_at hl 0 rfl) ?_
  refine va_get (D := zt_D G) (ci := 8) (v := .int (σ 94 2)) (C := RX9) (T := TX9) (N := 37) hx hb hts inX9 hown hK hP 94 (zt_a8 (rfl : zt_kd 94 = 8)) rfl 2 (by decide) fl7 (fun _ h9 => h9) rfl dX9_zone_1 ?_
  refine lv_bipush (v := 6) hx hb dX9_zone_4 (by decide +kernel) ?_
  refine lv_icmp_ge (tgt := 13) hx hb dX9_zone_6 (by decide) (fun c1 => ?_) (fun c1 => ?_)
  · have hf := (if_pos c1).symm.trans hf
    refine lv_iconst (v := 0) hx hb dX9_zone_13 (by decide) ?_
    exact B14 σ 0 x1 x2 _ _ _ hf hP hS (lv_sub hl [0, 1, 2] rfl)
  · have hf := (if_neg c1).symm.trans hf
    refine lv_iconst (v := 1) hx hb dX9_zone_9 (by decide) ?_
    refine lv_goto (tgt := 14) hx hb dX9_zone_10 (by decide) ?_
    exact B14 σ 1 x1 x2 _ _ _ hf hP hS (lv_sub hl [0, 1, 2] rfl)

theorem zh_X9_tells : yX9_tells.cls = RX9 ∧ yX9_tells.cls ≠ "java/lang/invoke/MethodHandle" ∧ yX9_tells.cls ≠ "java/lang/invoke/VarHandle" ∧ (parseMethodDescriptor yX9_tells.desc).map (fun d => d.parameters.length) = some 6 := by decide +kernel
set_option maxHeartbeats 4000000 in
set_option maxRecDepth 100000 in
theorem m_X9_tells (l : Launch) (G : zt_G) {σ : zt_St} {x1 : Int32} {x2 : Int32} {x3 : Int32} {x4 : Int32} {x5 : Int32} {x6 : Int32} {r : Int32} {σ1 : zt_St} (hf : f_X9_tells σ x1 x2 x3 x4 x5 x6 = some (r, σ1)) : zt_Mi l G yX9_tells wsX9_tells 4 84 [.ref (zt_ad G 94), .int x1, .int x2, .int x3, .int x4, .int x5, .int x6] σ r σ1 := by
  refine Met.ofW (cc := cX9_tells) (maxL := 7) (ret := (some .int)) (by decide) rfl ?_
  intro p e s m args below meth c s₁ B hml hv
  obtain ⟨rfl, hBB⟩ := hv
  have hE := zt_B.env hBB; have hK := hE.2.1; have hP := hBB.2.1
  have hx := B.exec; have hb := B.bytes; have hr := B.returns; have hts := atoms_spec (ws := wsX9_tells) B.pre
  have hown : s.vm.findClass RX9 = some m.cls := findClass_of_methodNamed B.named
  have hlocks := B.notSynchronized
  have hS : va_S (zt_A G) s.heap s.heap [] := va_S.rf
  have hl := lv_entry ([.ref (zt_ad G 94), .int x1, .int x2, .int x3, .int x4, .int x5, .int x6]) (n := 7) (Nat.le_of_ble_eq_true rfl)
  rw [lg_entry_eq]
  generalize (lg_sl ([.ref (zt_ad G 94), .int x1, .int x2, .int x3, .int x4, .int x5, .int x6]) ++ List.replicate (7 - (lg_sl ([.ref (zt_ad G 94), .int x1, .int x2, .int x3, .int x4, .int x5, .int x6])).length) Slot.unset).toArray = ls at hl ⊢
  have hl : lv_has ls 7 [(0, .ref (zt_ad G 94)), (1, .int x1), (2, .int x2), (3, .int x3), (4, .int x4), (5, .int x5), (6, .int x6)] := hl
  show W p l e (zt_R 4 84) s m ([.ref (zt_ad G 94), .int x1, .int x2, .int x3, .int x4, .int x5, .int x6] : List Value).toArray below meth c s.heap [] 0 0 (MQ below (zt_Ci G r σ1) ([.ref (zt_ad G 94), .int x1, .int x2, .int x3, .int x4, .int x5, .int x6] : List Value).toArray s 0 0 (zt_A G)) (F0 m 0 ls [])
  have fl57 := hts (.fieldLink RX9 57 "ZoneTreeModel" "part" "[I") (List.mem_cons_of_mem _ (List.mem_append_left _ (List.mem_of_getElem? (i := 1) rfl)))
  have fl60 := hts (.fieldLink RX9 60 "ZoneTreeModel" "partName" "[I") (List.mem_cons_of_mem _ (List.mem_append_left _ (List.mem_of_getElem? (i := 2) rfl)))
  have fl63 := hts (.fieldLink RX9 63 "ZoneTreeModel" "partSort" "[I") (List.mem_cons_of_mem _ (List.mem_append_left _ (List.mem_of_getElem? (i := 3) rfl)))
  have fl66 := hts (.fieldLink RX9 66 "ZoneTreeModel" "partNumber" "[I") (List.mem_cons_of_mem _ (List.mem_append_left _ (List.mem_of_getElem? (i := 4) rfl)))
  have fl69 := hts (.fieldLink RX9 69 "ZoneTreeModel" "partLife" "[I") (List.mem_cons_of_mem _ (List.mem_append_left _ (List.mem_of_getElem? (i := 5) rfl)))
  have fl149 := hts (.fieldLink RX9 149 "ZoneTreeModel" "parts" "I") (List.mem_cons_of_mem _ (List.mem_append_left _ (List.mem_of_getElem? (i := 0) rfl)))
  have inX9 : ∀ w ∈ wsX90, w ∈ wsX9_tells := fun w h => (List.mem_cons_of_mem _ (List.mem_append_right _ h))
  have B41 : ∀ (σ : zt_St) (y0 : Int32) (y1 : Int32) (u2 : Int32) (u3 : Int32) (u4 : Int32) (u5 : Int32) (u6 : Int32) (H : Heap) (locs : List Loc) (ls : Array Slot), f_X9_tells_41 σ y0 y1 u2 u3 u4 u5 u6 = some (r, σ1) → va_P (zt_D G) vwCl (zt_ww G σ) H → va_S (zt_A G) s.heap H locs → lv_has ls 7 [(0, .ref (zt_ad G 94)), (2, .int u2), (3, .int u3), (4, .int u4), (5, .int u5), (6, .int u6)] → W p l e (zt_R 4 84) s m ([.ref (zt_ad G 94), .int x1, .int x2, .int x3, .int x4, .int x5, .int x6] : List Value).toArray below meth c H locs 0 0 (MQ below (zt_Ci G r σ1) ([.ref (zt_ad G 94), .int x1, .int x2, .int x3, .int x4, .int x5, .int x6] : List Value).toArray s 0 0 (zt_A G)) (F0 m 41 ls [.int y0, .int y1, .ref (zt_ad G 94)]) := by
    intro σ y0 y1 u2 u3 u4 u5 u6 H locs ls hf hP hS hl
    unfold f_X9_tells_41 at hf
    obtain ⟨⟨v9a, σ10a⟩, hvv9, hf⟩ := zt_bd_some hf
    obtain ⟨v9, hv9, hf⟩ := zt_lt_some hf; obtain ⟨σ10, hσ10, hf⟩ := zt_lt_some hf; rw [show (v9a, σ10a) = (v9, σ10) from by rw [hv9, hσ10]] at hvv9
    refine va_calli (va_runV (As := [.int y1, .int y0]) (rest := []) ⟨hx, hb, hml, hown, hts⟩ (m_X9_asked_ l G (σ := σ) hvv9) (cwV 2 hts gX9_tells_X9_asked_ rfl rfl rfl zh_X9_asked_ ⟨Nat.le_of_ble_eq_true rfl, Nat.le_of_ble_eq_true rfl⟩) ⟨zt_blind, va_recv hK hP (ci := 8) (q0 := 94) rfl (zt_a8 (rfl : zt_kd 94 = 8)), fun U hU hW => ⟨rfl, zt_go hE hP hS zt_id hU hW⟩⟩ rfl rfl hl.1 rfl (lv_room (Nat.le_of_ble_eq_true rfl)) dX9_tells_41 ⟨Nat.zero_le _, Nat.zero_le _⟩) hS (fun _ _ h => h) (fun _ h => h) (fun r u t H locs ht hvm hw hB _ _ hS => ?_)
    rw [hw.1]; have hB : zt_B G u t := hB; rw [hw.2] at hB; have hP := zt_B.P hB ht
    refine lv_if_ne (tgt := 49) hx hb dX9_tells_44 (by decide) (fun c12 => ?_) (fun c12 => ?_)
    · have hf := (if_neg c12).symm.trans hf
      refine lv_aload_n hx hb dX9_tells_49 rfl (lv_at hl 0 rfl) ?_
      refine va_get (D := zt_D G) (ci := 8) (v := .ref (zt_ad G 108)) (C := RX9) (T := TX9) (N := 37) hx hb hts inX9 hown hK hP 94 (zt_a8 (rfl : zt_kd 94 = 8)) rfl 18 (by decide) fl57 (fun _ h9 => h9) rfl dX9_tells_50 ?_
      refine lv_aload_n hx hb dX9_tells_53 rfl (lv_at hl 0 rfl) ?_
      refine va_get (D := zt_D G) (ci := 8) (v := .int (σ10 94 17)) (C := RX9) (T := TX9) (N := 37) hx hb hts inX9 hown hK hP 94 (zt_a8 (rfl : zt_kd 94 = 8)) rfl 17 (by decide) fl149 (fun _ h9 => h9) rfl dX9_tells_54 ?_
      refine lv_iload_n hx hb dX9_tells_57 rfl (lv_at hl 1 rfl) ?_
      obtain ⟨g13, hf⟩ := zt_gd_some hf
      obtain ⟨σ14, hσ14, hf⟩ := zt_lt_some hf
      refine va_iast hx hb hK hP (zt_apart hE.1) hS 108 0 zt_a_108 rfl (zt_gI_in g13) dX9_tells_58 (fun H locs hP _ hS => ?_)
      rw [zt_p_108, ← hσ14] at hP
      refine lv_aload_n hx hb dX9_tells_59 rfl (lv_at hl 0 rfl) ?_
      refine va_get (D := zt_D G) (ci := 8) (v := .ref (zt_ad G 109)) (C := RX9) (T := TX9) (N := 37) hx hb hts inX9 hown hK hP 94 (zt_a8 (rfl : zt_kd 94 = 8)) rfl 19 (by decide) fl60 (fun _ h9 => h9) rfl dX9_tells_60 ?_
      refine lv_aload_n hx hb dX9_tells_63 rfl (lv_at hl 0 rfl) ?_
      refine va_get (D := zt_D G) (ci := 8) (v := .int (σ14 94 17)) (C := RX9) (T := TX9) (N := 37) hx hb hts inX9 hown hK hP 94 (zt_a8 (rfl : zt_kd 94 = 8)) rfl 17 (by decide) fl149 (fun _ h9 => h9) rfl dX9_tells_64 ?_
      refine lv_iload_n hx hb dX9_tells_67 rfl (lv_at hl 2 rfl) ?_
      obtain ⟨g15, hf⟩ := zt_gd_some hf
      obtain ⟨σ16, hσ16, hf⟩ := zt_lt_some hf
      refine va_iast hx hb hK hP (zt_apart hE.1) hS 109 0 zt_a_109 rfl (zt_gI_in g15) dX9_tells_68 (fun H locs hP _ hS => ?_)
      rw [zt_p_109, ← hσ16] at hP
      refine lv_aload_n hx hb dX9_tells_69 rfl (lv_at hl 0 rfl) ?_
      refine va_get (D := zt_D G) (ci := 8) (v := .ref (zt_ad G 110)) (C := RX9) (T := TX9) (N := 37) hx hb hts inX9 hown hK hP 94 (zt_a8 (rfl : zt_kd 94 = 8)) rfl 20 (by decide) fl63 (fun _ h9 => h9) rfl dX9_tells_70 ?_
      refine lv_aload_n hx hb dX9_tells_73 rfl (lv_at hl 0 rfl) ?_
      refine va_get (D := zt_D G) (ci := 8) (v := .int (σ16 94 17)) (C := RX9) (T := TX9) (N := 37) hx hb hts inX9 hown hK hP 94 (zt_a8 (rfl : zt_kd 94 = 8)) rfl 17 (by decide) fl149 (fun _ h9 => h9) rfl dX9_tells_74 ?_
      refine lv_iload hx hb dX9_tells_77 (lv_at hl 3 rfl) ?_
      obtain ⟨g17, hf⟩ := zt_gd_some hf
      obtain ⟨σ18, hσ18, hf⟩ := zt_lt_some hf
      refine va_iast hx hb hK hP (zt_apart hE.1) hS 110 0 zt_a_110 rfl (zt_gI_in g17) dX9_tells_79 (fun H locs hP _ hS => ?_)
      rw [zt_p_110, ← hσ18] at hP
      refine lv_aload_n hx hb dX9_tells_80 rfl (lv_at hl 0 rfl) ?_
      refine va_get (D := zt_D G) (ci := 8) (v := .ref (zt_ad G 111)) (C := RX9) (T := TX9) (N := 37) hx hb hts inX9 hown hK hP 94 (zt_a8 (rfl : zt_kd 94 = 8)) rfl 21 (by decide) fl66 (fun _ h9 => h9) rfl dX9_tells_81 ?_
      refine lv_aload_n hx hb dX9_tells_84 rfl (lv_at hl 0 rfl) ?_
      refine va_get (D := zt_D G) (ci := 8) (v := .int (σ18 94 17)) (C := RX9) (T := TX9) (N := 37) hx hb hts inX9 hown hK hP 94 (zt_a8 (rfl : zt_kd 94 = 8)) rfl 17 (by decide) fl149 (fun _ h9 => h9) rfl dX9_tells_85 ?_
      refine lv_iload hx hb dX9_tells_88 (lv_at hl 4 rfl) ?_
      obtain ⟨g19, hf⟩ := zt_gd_some hf
      obtain ⟨σ20, hσ20, hf⟩ := zt_lt_some hf
      refine va_iast hx hb hK hP (zt_apart hE.1) hS 111 0 zt_a_111 rfl (zt_gI_in g19) dX9_tells_90 (fun H locs hP _ hS => ?_)
      rw [zt_p_111, ← hσ20] at hP
      refine lv_aload_n hx hb dX9_tells_91 rfl (lv_at hl 0 rfl) ?_
      refine va_get (D := zt_D G) (ci := 8) (v := .ref (zt_ad G 112)) (C := RX9) (T := TX9) (N := 37) hx hb hts inX9 hown hK hP 94 (zt_a8 (rfl : zt_kd 94 = 8)) rfl 22 (by decide) fl69 (fun _ h9 => h9) rfl dX9_tells_92 ?_
      refine lv_aload_n hx hb dX9_tells_95 rfl (lv_at hl 0 rfl) ?_
      refine va_get (D := zt_D G) (ci := 8) (v := .int (σ20 94 17)) (C := RX9) (T := TX9) (N := 37) hx hb hts inX9 hown hK hP 94 (zt_a8 (rfl : zt_kd 94 = 8)) rfl 17 (by decide) fl149 (fun _ h9 => h9) rfl dX9_tells_96 ?_
      refine lv_iload hx hb dX9_tells_99 (lv_at hl 5 rfl) ?_
      obtain ⟨g21, hf⟩ := zt_gd_some hf
      obtain ⟨σ22, hσ22, hf⟩ := zt_lt_some hf
      refine va_iast hx hb hK hP (zt_apart hE.1) hS 112 0 zt_a_112 rfl (zt_gI_in g21) dX9_tells_101 (fun H locs hP _ hS => ?_)
      rw [zt_p_112, ← hσ22] at hP
      refine lv_aload_n hx hb dX9_tells_102 rfl (lv_at hl 0 rfl) ?_
      refine lv_dup hx hb dX9_tells_103 rfl ?_
      refine va_get (D := zt_D G) (ci := 8) (v := .int (σ22 94 17)) (C := RX9) (T := TX9) (N := 37) hx hb hts inX9 hown hK hP 94 (zt_a8 (rfl : zt_kd 94 = 8)) rfl 17 (by decide) fl149 (fun _ h9 => h9) rfl dX9_tells_104 ?_
      refine lv_iconst (v := 1) hx hb dX9_tells_107 (by decide) ?_
      refine lv_iadd hx hb dX9_tells_108 ?_
      obtain ⟨σ23, hσ23, hf⟩ := zt_lt_some hf
      refine va_put (D := zt_D G) (ci := 8) (v := .int ((σ22 94 17) + 1)) (ty := .int) (C := RX9) (T := TX9) (N := 37) hx hb hts inX9 tyX9 tyX9_ok nmX9 hown hK hP (zt_apart hE.1) hS 94 (zt_a8 (rfl : zt_kd 94 = 8)) rfl 17 (by decide) fl149 (fun _ h9 => h9) rfl (tyX9_ok 17 (by decide)) rfl rfl (Nat.le_of_ble_eq_true rfl) dX9_tells_109 (fun H locs hP _ hS => ?_)
      rw [zt_p8_17 (rfl : zt_kd 94 = 8), ← hσ23] at hP
      refine lv_aload_n hx hb dX9_tells_112 rfl (lv_at hl 0 rfl) ?_
      refine va_get (D := zt_D G) (ci := 8) (v := .int (σ23 94 17)) (C := RX9) (T := TX9) (N := 37) hx hb hts inX9 hown hK hP 94 (zt_a8 (rfl : zt_kd 94 = 8)) rfl 17 (by decide) fl149 (fun _ h9 => h9) rfl dX9_tells_113 ?_
      exact W.iret hx hb hr (fun t ht hW => ⟨⟨_, _, rfl, (Prod.mk.inj (Option.some.inj hf)), zt_go hE hP hS zt_id ht hW⟩, hS.F ht⟩) hS.2.2 dX9_tells_116
    · have hf := (if_pos c12).symm.trans hf
      refine lv_iconst (v := 0) hx hb dX9_tells_47 (by decide) ?_
      exact W.iret hx hb hr (fun t ht hW => ⟨⟨_, _, rfl, (Prod.mk.inj (Option.some.inj hf)), zt_go hE hP hS zt_id ht hW⟩, hS.F ht⟩) hS.2.2 dX9_tells_48
  have B27 : ∀ (σ : zt_St) (y0 : Int32) (u2 : Int32) (u3 : Int32) (u4 : Int32) (u5 : Int32) (u6 : Int32) (H : Heap) (locs : List Loc) (ls : Array Slot), f_X9_tells_27 σ y0 u2 u3 u4 u5 u6 = some (r, σ1) → va_P (zt_D G) vwCl (zt_ww G σ) H → va_S (zt_A G) s.heap H locs → lv_has ls 7 [(0, .ref (zt_ad G 94)), (2, .int u2), (3, .int u3), (4, .int u4), (5, .int u5), (6, .int u6)] → W p l e (zt_R 4 84) s m ([.ref (zt_ad G 94), .int x1, .int x2, .int x3, .int x4, .int x5, .int x6] : List Value).toArray below meth c H locs 0 0 (MQ below (zt_Ci G r σ1) ([.ref (zt_ad G 94), .int x1, .int x2, .int x3, .int x4, .int x5, .int x6] : List Value).toArray s 0 0 (zt_A G)) (F0 m 27 ls [.int y0, .ref (zt_ad G 94)]) := by
    intro σ y0 u2 u3 u4 u5 u6 H locs ls hf hP hS hl
    unfold f_X9_tells_27 at hf
    refine lv_aload_n hx hb dX9_tells_27 rfl (lv_at hl 0 rfl) ?_
    refine va_get (D := zt_D G) (ci := 8) (v := .int (σ 94 17)) (C := RX9) (T := TX9) (N := 37) hx hb hts inX9 hown hK hP 94 (zt_a8 (rfl : zt_kd 94 = 8)) rfl 17 (by decide) fl149 (fun _ h9 => h9) rfl dX9_tells_28 ?_
    refine lv_bipush (v := 10) hx hb dX9_tells_31 (by decide +kernel) ?_
    refine lv_icmp_ge (tgt := 40) hx hb dX9_tells_33 (by decide) (fun c8 => ?_) (fun c8 => ?_)
    · have hf := (if_pos c8).symm.trans hf
      refine lv_iconst (v := 0) hx hb dX9_tells_40 (by decide) ?_
      exact B41 σ 0 y0 u2 u3 u4 u5 u6 _ _ _ hf hP hS (lv_sub hl [0, 1, 2, 3, 4, 5] rfl)
    · have hf := (if_neg c8).symm.trans hf
      refine lv_iconst (v := 1) hx hb dX9_tells_36 (by decide) ?_
      refine lv_goto (tgt := 41) hx hb dX9_tells_37 (by decide) ?_
      exact B41 σ 1 y0 u2 u3 u4 u5 u6 _ _ _ hf hP hS (lv_sub hl [0, 1, 2, 3, 4, 5] rfl)
  have B26 : ∀ (σ : zt_St) (u2 : Int32) (u3 : Int32) (u4 : Int32) (u5 : Int32) (u6 : Int32) (H : Heap) (locs : List Loc) (ls : Array Slot), f_X9_tells_26 σ u2 u3 u4 u5 u6 = some (r, σ1) → va_P (zt_D G) vwCl (zt_ww G σ) H → va_S (zt_A G) s.heap H locs → lv_has ls 7 [(0, .ref (zt_ad G 94)), (2, .int u2), (3, .int u3), (4, .int u4), (5, .int u5), (6, .int u6)] → W p l e (zt_R 4 84) s m ([.ref (zt_ad G 94), .int x1, .int x2, .int x3, .int x4, .int x5, .int x6] : List Value).toArray below meth c H locs 0 0 (MQ below (zt_Ci G r σ1) ([.ref (zt_ad G 94), .int x1, .int x2, .int x3, .int x4, .int x5, .int x6] : List Value).toArray s 0 0 (zt_A G)) (F0 m 26 ls [.ref (zt_ad G 94)]) := by
    intro σ u2 u3 u4 u5 u6 H locs ls hf hP hS hl
    unfold f_X9_tells_26 at hf
    refine lv_iconst (v := 0) hx hb dX9_tells_26 (by decide) ?_
    exact B27 σ 0 u2 u3 u4 u5 u6 _ _ _ hf hP hS (lv_sub hl [0, 1, 2, 3, 4, 5] rfl)
  unfold f_X9_tells at hf
  refine lv_aload_n hx hb dX9_tells_0 rfl (lv_at hl 0 rfl) ?_
  refine lv_iload_n hx hb dX9_tells_1 rfl (lv_at hl 1 rfl) ?_
  refine lv_if_eq (tgt := 26) hx hb dX9_tells_2 (by decide) (fun c1 => ?_) (fun c1 => ?_)
  · have hf := (if_pos c1).symm.trans hf
    exact B26 σ x2 x3 x4 x5 x6 _ _ _ hf hP hS (lv_sub hl [0, 2, 3, 4, 5, 6] rfl)
  · have hf := (if_neg c1).symm.trans hf
    refine lv_iload_n hx hb dX9_tells_5 rfl (lv_at hl 3 rfl) ?_
    obtain ⟨v2, hvv2, hf⟩ := zt_bd_some hf
    refine va_calli (va_runS (As := [.int x3]) (rest := [.ref (zt_ad G 94)]) ⟨hx, hb, hml, hown, hts⟩ (m_X9_isPlace l G (σ := σ) hvv2) (va_cwS 1 hts gX9_tells_X9_isPlace rfl rfl rfl zh_X9_isPlace ⟨Nat.le_of_ble_eq_true rfl, Nat.le_of_ble_eq_true rfl⟩) ⟨zt_blind, fun U hU hW => ⟨rfl, zt_go hE hP hS zt_id hU hW⟩⟩ rfl rfl hl.1 rfl (lv_room (Nat.le_of_ble_eq_true rfl)) dX9_tells_6 ⟨Nat.zero_le _, Nat.zero_le _⟩) hS (fun _ _ h => h) (fun _ h => h) (fun r u t H locs ht hvm hw hB _ _ hS => ?_)
    rw [hw.1]; have hB : zt_B G u t := hB; rw [hw.2] at hB; have hP := zt_B.P hB ht
    refine lv_if_eq (tgt := 26) hx hb dX9_tells_9 (by decide) (fun c4 => ?_) (fun c4 => ?_)
    · have hf := (if_pos c4).symm.trans hf
      exact B26 σ x2 x3 x4 x5 x6 _ _ _ hf hP hS (lv_sub hl [0, 2, 3, 4, 5, 6] rfl)
    · have hf := (if_neg c4).symm.trans hf
      refine lv_iload hx hb dX9_tells_12 (lv_at hl 4 rfl) ?_
      refine lv_iconst (v := 0) hx hb dX9_tells_14 (by decide) ?_
      refine lv_iconst (v := 4) hx hb dX9_tells_15 (by decide) ?_
      obtain ⟨v5, hvv5, hf⟩ := zt_bd_some hf
      refine va_calli (va_runS (As := [.int x4, .int 0, .int 4]) (rest := [.ref (zt_ad G 94)]) ⟨hx, hb, hml, hown, hts⟩ (m_X9_in l G (σ := σ) hvv5) (va_cwS 3 hts gX9_tells_X9_in rfl rfl rfl zh_X9_in ⟨Nat.le_of_ble_eq_true rfl, Nat.le_of_ble_eq_true rfl⟩) ⟨zt_blind, fun U hU hW => ⟨rfl, zt_go hE hP hS zt_id hU hW⟩⟩ rfl rfl hl.1 rfl (lv_room (Nat.le_of_ble_eq_true rfl)) dX9_tells_16 ⟨Nat.zero_le _, Nat.zero_le _⟩) hS (fun _ _ h => h) (fun _ h => h) (fun r u t H locs ht hvm hw hB _ _ hS => ?_)
      rw [hw.1]; have hB : zt_B G u t := hB; rw [hw.2] at hB; have hP := zt_B.P hB ht
      refine lv_if_eq (tgt := 26) hx hb dX9_tells_19 (by decide) (fun c7 => ?_) (fun c7 => ?_)
      · have hf := (if_pos c7).symm.trans hf
        exact B26 σ x2 x3 x4 x5 x6 _ _ _ hf hP hS (lv_sub hl [0, 2, 3, 4, 5, 6] rfl)
      · have hf := (if_neg c7).symm.trans hf
        refine lv_iconst (v := 1) hx hb dX9_tells_22 (by decide) ?_
        refine lv_goto (tgt := 27) hx hb dX9_tells_23 (by decide) ?_
        exact B27 σ 1 x2 x3 x4 x5 x6 _ _ _ hf hP hS (lv_sub hl [0, 2, 3, 4, 5, 6] rfl)

theorem zh_X9_need : yX9_need.cls = RX9 ∧ yX9_need.cls ≠ "java/lang/invoke/MethodHandle" ∧ yX9_need.cls ≠ "java/lang/invoke/VarHandle" ∧ (parseMethodDescriptor yX9_need.desc).map (fun d => d.parameters.length) = some 3 := by decide +kernel
set_option maxHeartbeats 4000000 in
set_option maxRecDepth 100000 in
theorem m_X9_need (l : Launch) (G : zt_G) {σ : zt_St} {x1 : Int32} {x2 : Int32} {x3 : Int32} {r : Int32} {σ1 : zt_St} (hf : f_X9_need σ x1 x2 x3 = some (r, σ1)) : zt_Mi l G yX9_need wsX9_need 5 110 [.ref (zt_ad G 94), .int x1, .int x2, .int x3] σ r σ1 := by
  refine Met.ofW (cc := cX9_need) (maxL := 4) (ret := (some .int)) (by decide) rfl ?_
  intro p e s m args below meth c s₁ B hml hv
  obtain ⟨rfl, hBB⟩ := hv
  have hE := zt_B.env hBB; have hK := hE.2.1; have hP := hBB.2.1
  have hx := B.exec; have hb := B.bytes; have hr := B.returns; have hts := atoms_spec (ws := wsX9_need) B.pre
  have hown : s.vm.findClass RX9 = some m.cls := findClass_of_methodNamed B.named
  have hlocks := B.notSynchronized
  have hS : va_S (zt_A G) s.heap s.heap [] := va_S.rf
  have hl := lv_entry ([.ref (zt_ad G 94), .int x1, .int x2, .int x3]) (n := 4) (Nat.le_of_ble_eq_true rfl)
  rw [lg_entry_eq]
  generalize (lg_sl ([.ref (zt_ad G 94), .int x1, .int x2, .int x3]) ++ List.replicate (4 - (lg_sl ([.ref (zt_ad G 94), .int x1, .int x2, .int x3])).length) Slot.unset).toArray = ls at hl ⊢
  have hl : lv_has ls 4 [(0, .ref (zt_ad G 94)), (1, .int x1), (2, .int x2), (3, .int x3)] := hl
  show W p l e (zt_R 5 110) s m ([.ref (zt_ad G 94), .int x1, .int x2, .int x3] : List Value).toArray below meth c s.heap [] 0 0 (MQ below (zt_Ci G r σ1) ([.ref (zt_ad G 94), .int x1, .int x2, .int x3] : List Value).toArray s 0 0 (zt_A G)) (F0 m 0 ls [])
  have B11 : ∀ (σ : zt_St) (y0 : Int32) (u1 : Int32) (u2 : Int32) (H : Heap) (locs : List Loc) (ls : Array Slot), f_X9_need_11 σ y0 u1 u2 = some (r, σ1) → va_P (zt_D G) vwCl (zt_ww G σ) H → va_S (zt_A G) s.heap H locs → lv_has ls 4 [(1, .int u1), (2, .int u2)] → W p l e (zt_R 5 110) s m ([.ref (zt_ad G 94), .int x1, .int x2, .int x3] : List Value).toArray below meth c H locs 0 0 (MQ below (zt_Ci G r σ1) ([.ref (zt_ad G 94), .int x1, .int x2, .int x3] : List Value).toArray s 0 0 (zt_A G)) (F0 m 11 ls [.int y0, .int 1, .ref (zt_ad G 94)]) := by
    intro σ y0 u1 u2 H locs ls hf hP hS hl
    unfold f_X9_need_11 at hf
    refine lv_iload_n hx hb dX9_need_11 rfl (lv_at hl 0 rfl) ?_
    refine lv_iload_n hx hb dX9_need_12 rfl (lv_at hl 1 rfl) ?_
    refine lv_iconst (v := 0) hx hb dX9_need_13 (by decide) ?_
    refine lv_iconst (v := 0) hx hb dX9_need_14 (by decide) ?_
    obtain ⟨⟨v2a, σ3a⟩, hvv2, hf⟩ := zt_bd_some hf
    obtain ⟨v2, hv2, hf⟩ := zt_lt_some hf; obtain ⟨σ3, hσ3, hf⟩ := zt_lt_some hf; rw [show (v2a, σ3a) = (v2, σ3) from by rw [hv2, hσ3]] at hvv2
    refine va_calli (va_runV (As := [.int 1, .int y0, .int u1, .int u2, .int 0, .int 0]) (rest := []) ⟨hx, hb, hml, hown, hts⟩ (m_X9_tells l G (σ := σ) hvv2) (cwV 6 hts gX9_need_X9_tells rfl rfl rfl zh_X9_tells ⟨Nat.le_of_ble_eq_true rfl, Nat.le_of_ble_eq_true rfl⟩) ⟨zt_blind, va_recv hK hP (ci := 8) (q0 := 94) rfl (zt_a8 (rfl : zt_kd 94 = 8)), fun U hU hW => ⟨rfl, zt_go hE hP hS zt_id hU hW⟩⟩ rfl rfl hl.1 rfl (lv_room (Nat.le_of_ble_eq_true rfl)) dX9_need_15 ⟨Nat.zero_le _, Nat.zero_le _⟩) hS (fun _ _ h => h) (fun _ h => h) (fun r u t H locs ht hvm hw hB _ _ hS => ?_)
    rw [hw.1]; have hB : zt_B G u t := hB; rw [hw.2] at hB; have hP := zt_B.P hB ht
    exact W.iret hx hb hr (fun t ht hW => ⟨⟨_, _, rfl, (Prod.mk.inj (Option.some.inj hf)), zt_go hE hP hS zt_id ht hW⟩, hS.F ht⟩) hS.2.2 dX9_need_18
  unfold f_X9_need at hf
  refine lv_aload_n hx hb dX9_need_0 rfl (lv_at hl 0 rfl) ?_
  refine lv_iconst (v := 1) hx hb dX9_need_1 (by decide) ?_
  refine lv_iload_n hx hb dX9_need_2 rfl (lv_at hl 3 rfl) ?_
  refine lv_if_eq (tgt := 10) hx hb dX9_need_3 (by decide) (fun c1 => ?_) (fun c1 => ?_)
  · have hf := (if_pos c1).symm.trans hf
    refine lv_iconst (v := 1) hx hb dX9_need_10 (by decide) ?_
    exact B11 σ 1 x1 x2 _ _ _ hf hP hS (lv_sub hl [1, 2] rfl)
  · have hf := (if_neg c1).symm.trans hf
    refine lv_iconst (v := 0) hx hb dX9_need_6 (by decide) ?_
    refine lv_goto (tgt := 11) hx hb dX9_need_7 (by decide) ?_
    exact B11 σ 0 x1 x2 _ _ _ hf hP hS (lv_sub hl [1, 2] rfl)

theorem zh_X9_isNumber : yX9_isNumber.cls ≠ "java/lang/invoke/MethodHandle" ∧ yX9_isNumber.cls ≠ "java/lang/invoke/VarHandle" ∧ (parseMethodDescriptor yX9_isNumber.desc).map (fun d => d.parameters.length) = some 2 := by decide +kernel
set_option maxHeartbeats 4000000 in
set_option maxRecDepth 100000 in
theorem m_X9_isNumber (l : Launch) (G : zt_G) {σ : zt_St} {x0 : Int32} {x1 : Int32} {r : Int32} (hf : f_X9_isNumber x0 x1 = some r) : zt_Mi l G yX9_isNumber wsX9_isNumber 2 44 [.int x0, .int x1] σ r σ := by
  refine Met.ofW (cc := cX9_isNumber) (maxL := 2) (ret := (some .boolean)) (by decide) rfl ?_
  intro p e s m args below meth c s₁ B hml hv
  obtain ⟨rfl, hBB⟩ := hv
  have hE := zt_B.env hBB; have hK := hE.2.1; have hP := hBB.2.1
  have hx := B.exec; have hb := B.bytes; have hr := B.returns; have hts := atoms_spec (ws := wsX9_isNumber) B.pre
  have hown : s.vm.findClass RX9 = some m.cls := findClass_of_methodNamed B.named
  have hlocks := B.notSynchronized
  have hS : va_S (zt_A G) s.heap s.heap [] := va_S.rf
  have hl := lv_entry ([.int x0, .int x1]) (n := 2) (Nat.le_of_ble_eq_true rfl)
  rw [lg_entry_eq]
  generalize (lg_sl ([.int x0, .int x1]) ++ List.replicate (2 - (lg_sl ([.int x0, .int x1])).length) Slot.unset).toArray = ls at hl ⊢
  have hl : lv_has ls 2 [(0, .int x0), (1, .int x1)] := hl
  show W p l e (zt_R 2 44) s m ([.int x0, .int x1] : List Value).toArray below meth c s.heap [] 0 0 (MQ below (zt_Ci G r σ) ([.int x0, .int x1] : List Value).toArray s 0 0 (zt_A G)) (F0 m 0 ls [])
  unfold f_X9_isNumber at hf
  refine lv_iload_n hx hb dX9_isNumber_0 rfl (lv_at hl 0 rfl) ?_
  refine lv_if_ne (tgt := 14) hx hb dX9_isNumber_1 (by decide) (fun c1 => ?_) (fun c1 => ?_)
  · have hf := (if_neg c1).symm.trans hf
    refine lv_iload_n hx hb dX9_isNumber_14 rfl (lv_at hl 0 rfl) ?_
    refine lv_iconst (v := 3) hx hb dX9_isNumber_15 (by decide) ?_
    refine lv_icmp_ne (tgt := 28) hx hb dX9_isNumber_16 (by decide) (fun c2 => ?_) (fun c2 => ?_)
    · have hf := (if_neg c2).symm.trans hf
      refine lv_iload_n hx hb dX9_isNumber_28 rfl (lv_at hl 0 rfl) ?_
      refine lv_iconst (v := 4) hx hb dX9_isNumber_29 (by decide) ?_
      refine lv_icmp_ne (tgt := 44) hx hb dX9_isNumber_30 (by decide) (fun c3 => ?_) (fun c3 => ?_)
      · have hf := (if_neg c3).symm.trans hf
        refine lv_iload_n hx hb dX9_isNumber_44 rfl (lv_at hl 1 rfl) ?_
        obtain ⟨v4, hvv4, hf⟩ := zt_bd_some hf
        refine va_calli (va_runS (As := [.int x1]) (rest := []) ⟨hx, hb, hml, hown, hts⟩ (m_X9_isName l G (σ := σ) hvv4) (va_cwS 1 hts gX9_isNumber_X9_isName rfl rfl rfl zh_X9_isName ⟨Nat.le_of_ble_eq_true rfl, Nat.le_of_ble_eq_true rfl⟩) ⟨zt_blind, fun U hU hW => ⟨rfl, zt_go hE hP hS zt_id hU hW⟩⟩ rfl rfl hl.1 rfl (lv_room (Nat.le_of_ble_eq_true rfl)) dX9_isNumber_45 ⟨Nat.zero_le _, Nat.zero_le _⟩) hS (fun _ _ h => h) (fun _ h => h) (fun r u t H locs ht hvm hw hB _ _ hS => ?_)
        rw [hw.1]; have hB : zt_B G u t := hB; rw [hw.2] at hB; have hP := zt_B.P hB ht
        obtain ⟨g6, hf⟩ := zt_gd_some hf
        exact W.zret hx hb hr (zt_bn g6).1 (fun t ht hW => ⟨⟨_, _, rfl, ⟨Option.some.inj hf, rfl⟩, zt_go hE hP hS zt_id ht hW⟩, hS.F ht⟩) hS.2.2 dX9_isNumber_48
      · have hf := (if_pos c3).symm.trans hf
        refine lv_iload_n hx hb dX9_isNumber_33 rfl (lv_at hl 1 rfl) ?_
        refine lv_iconst (v := 0) hx hb dX9_isNumber_34 (by decide) ?_
        refine lv_sipush (v := 996) hx hb dX9_isNumber_35 (by decide +kernel) ?_
        obtain ⟨v7, hvv7, hf⟩ := zt_bd_some hf
        refine va_calli (va_runS (As := [.int x1, .int 0, .int 996]) (rest := []) ⟨hx, hb, hml, hown, hts⟩ (m_X9_in l G (σ := σ) hvv7) (va_cwS 3 hts gX9_isNumber_X9_in rfl rfl rfl zh_X9_in ⟨Nat.le_of_ble_eq_true rfl, Nat.le_of_ble_eq_true rfl⟩) ⟨zt_blind, fun U hU hW => ⟨rfl, zt_go hE hP hS zt_id hU hW⟩⟩ rfl rfl hl.1 rfl (lv_room (Nat.le_of_ble_eq_true rfl)) dX9_isNumber_38 ⟨Nat.zero_le _, Nat.zero_le _⟩) hS (fun _ _ h => h) (fun _ h => h) (fun r u t H locs ht hvm hw hB _ _ hS => ?_)
        rw [hw.1]; have hB : zt_B G u t := hB; rw [hw.2] at hB; have hP := zt_B.P hB ht
        refine lv_goto (tgt := 48) hx hb dX9_isNumber_41 (by decide) ?_
        obtain ⟨g9, hf⟩ := zt_gd_some hf
        exact W.zret hx hb hr (zt_bn g9).1 (fun t ht hW => ⟨⟨_, _, rfl, ⟨Option.some.inj hf, rfl⟩, zt_go hE hP hS zt_id ht hW⟩, hS.F ht⟩) hS.2.2 dX9_isNumber_48
    · have hf := (if_pos c2).symm.trans hf
      refine lv_iload_n hx hb dX9_isNumber_19 rfl (lv_at hl 1 rfl) ?_
      refine lv_iconst (v := 0) hx hb dX9_isNumber_20 (by decide) ?_
      refine lv_iconst (v := 5) hx hb dX9_isNumber_21 (by decide) ?_
      obtain ⟨v10, hvv10, hf⟩ := zt_bd_some hf
      refine va_calli (va_runS (As := [.int x1, .int 0, .int 5]) (rest := []) ⟨hx, hb, hml, hown, hts⟩ (m_X9_in l G (σ := σ) hvv10) (va_cwS 3 hts gX9_isNumber_X9_in rfl rfl rfl zh_X9_in ⟨Nat.le_of_ble_eq_true rfl, Nat.le_of_ble_eq_true rfl⟩) ⟨zt_blind, fun U hU hW => ⟨rfl, zt_go hE hP hS zt_id hU hW⟩⟩ rfl rfl hl.1 rfl (lv_room (Nat.le_of_ble_eq_true rfl)) dX9_isNumber_22 ⟨Nat.zero_le _, Nat.zero_le _⟩) hS (fun _ _ h => h) (fun _ h => h) (fun r u t H locs ht hvm hw hB _ _ hS => ?_)
      rw [hw.1]; have hB : zt_B G u t := hB; rw [hw.2] at hB; have hP := zt_B.P hB ht
      refine lv_goto (tgt := 48) hx hb dX9_isNumber_25 (by decide) ?_
      obtain ⟨g12, hf⟩ := zt_gd_some hf
      exact W.zret hx hb hr (zt_bn g12).1 (fun t ht hW => ⟨⟨_, _, rfl, ⟨Option.some.inj hf, rfl⟩, zt_go hE hP hS zt_id ht hW⟩, hS.F ht⟩) hS.2.2 dX9_isNumber_48
  · have hf := (if_pos c1).symm.trans hf
    refine lv_iload_n hx hb dX9_isNumber_4 rfl (lv_at hl 1 rfl) ?_
    refine lv_iconst (v := 0) hx hb dX9_isNumber_5 (by decide) ?_
    refine lv_bipush (v := 99) hx hb dX9_isNumber_6 (by decide +kernel) ?_
    obtain ⟨v13, hvv13, hf⟩ := zt_bd_some hf
    refine va_calli (va_runS (As := [.int x1, .int 0, .int 99]) (rest := []) ⟨hx, hb, hml, hown, hts⟩ (m_X9_in l G (σ := σ) hvv13) (va_cwS 3 hts gX9_isNumber_X9_in rfl rfl rfl zh_X9_in ⟨Nat.le_of_ble_eq_true rfl, Nat.le_of_ble_eq_true rfl⟩) ⟨zt_blind, fun U hU hW => ⟨rfl, zt_go hE hP hS zt_id hU hW⟩⟩ rfl rfl hl.1 rfl (lv_room (Nat.le_of_ble_eq_true rfl)) dX9_isNumber_8 ⟨Nat.zero_le _, Nat.zero_le _⟩) hS (fun _ _ h => h) (fun _ h => h) (fun r u t H locs ht hvm hw hB _ _ hS => ?_)
    rw [hw.1]; have hB : zt_B G u t := hB; rw [hw.2] at hB; have hP := zt_B.P hB ht
    refine lv_goto (tgt := 48) hx hb dX9_isNumber_11 (by decide) ?_
    obtain ⟨g15, hf⟩ := zt_gd_some hf
    exact W.zret hx hb hr (zt_bn g15).1 (fun t ht hW => ⟨⟨_, _, rfl, ⟨Option.some.inj hf, rfl⟩, zt_go hE hP hS zt_id ht hW⟩, hS.F ht⟩) hS.2.2 dX9_isNumber_48

theorem zh_X9_put : yX9_put.cls = RX9 ∧ yX9_put.cls ≠ "java/lang/invoke/MethodHandle" ∧ yX9_put.cls ≠ "java/lang/invoke/VarHandle" ∧ (parseMethodDescriptor yX9_put.desc).map (fun d => d.parameters.length) = some 4 := by decide +kernel
set_option maxHeartbeats 4000000 in
set_option maxRecDepth 100000 in
theorem m_X9_put (l : Launch) (G : zt_G) {σ : zt_St} {x1 : Int32} {x2 : Int32} {x3 : Int32} {x4 : Int32} {r : Int32} {σ1 : zt_St} (hf : f_X9_put σ x1 x2 x3 x4 = some (r, σ1)) : zt_Mi l G yX9_put wsX9_put 5 110 [.ref (zt_ad G 94), .int x1, .int x2, .int x3, .int x4] σ r σ1 := by
  refine Met.ofW (cc := cX9_put) (maxL := 5) (ret := (some .int)) (by decide) rfl ?_
  intro p e s m args below meth c s₁ B hml hv
  obtain ⟨rfl, hBB⟩ := hv
  have hE := zt_B.env hBB; have hK := hE.2.1; have hP := hBB.2.1
  have hx := B.exec; have hb := B.bytes; have hr := B.returns; have hts := atoms_spec (ws := wsX9_put) B.pre
  have hown : s.vm.findClass RX9 = some m.cls := findClass_of_methodNamed B.named
  have hlocks := B.notSynchronized
  have hS : va_S (zt_A G) s.heap s.heap [] := va_S.rf
  have hl := lv_entry ([.ref (zt_ad G 94), .int x1, .int x2, .int x3, .int x4]) (n := 5) (Nat.le_of_ble_eq_true rfl)
  rw [lg_entry_eq]
  generalize (lg_sl ([.ref (zt_ad G 94), .int x1, .int x2, .int x3, .int x4]) ++ List.replicate (5 - (lg_sl ([.ref (zt_ad G 94), .int x1, .int x2, .int x3, .int x4])).length) Slot.unset).toArray = ls at hl ⊢
  have hl : lv_has ls 5 [(0, .ref (zt_ad G 94)), (1, .int x1), (2, .int x2), (3, .int x3), (4, .int x4)] := hl
  show W p l e (zt_R 5 110) s m ([.ref (zt_ad G 94), .int x1, .int x2, .int x3, .int x4] : List Value).toArray below meth c s.heap [] 0 0 (MQ below (zt_Ci G r σ1) ([.ref (zt_ad G 94), .int x1, .int x2, .int x3, .int x4] : List Value).toArray s 0 0 (zt_A G)) (F0 m 0 ls [])
  have B25 : ∀ (σ : zt_St) (y0 : Int32) (u1 : Int32) (u2 : Int32) (u3 : Int32) (u4 : Int32) (H : Heap) (locs : List Loc) (ls : Array Slot), f_X9_put_25 σ y0 u1 u2 u3 u4 = some (r, σ1) → va_P (zt_D G) vwCl (zt_ww G σ) H → va_S (zt_A G) s.heap H locs → lv_has ls 5 [(1, .int u1), (2, .int u2), (3, .int u3), (4, .int u4)] → W p l e (zt_R 5 110) s m ([.ref (zt_ad G 94), .int x1, .int x2, .int x3, .int x4] : List Value).toArray below meth c H locs 0 0 (MQ below (zt_Ci G r σ1) ([.ref (zt_ad G 94), .int x1, .int x2, .int x3, .int x4] : List Value).toArray s 0 0 (zt_A G)) (F0 m 25 ls [.int y0, .ref (zt_ad G 94)]) := by
    intro σ y0 u1 u2 u3 u4 H locs ls hf hP hS hl
    unfold f_X9_put_25 at hf
    refine lv_iconst (v := 2) hx hb dX9_put_25 (by decide) ?_
    refine lv_iload_n hx hb dX9_put_26 rfl (lv_at hl 0 rfl) ?_
    refine lv_iload_n hx hb dX9_put_27 rfl (lv_at hl 1 rfl) ?_
    refine lv_iload_n hx hb dX9_put_28 rfl (lv_at hl 2 rfl) ?_
    refine lv_iload hx hb dX9_put_29 (lv_at hl 3 rfl) ?_
    obtain ⟨⟨v7a, σ8a⟩, hvv7, hf⟩ := zt_bd_some hf
    obtain ⟨v7, hv7, hf⟩ := zt_lt_some hf; obtain ⟨σ8, hσ8, hf⟩ := zt_lt_some hf; rw [show (v7a, σ8a) = (v7, σ8) from by rw [hv7, hσ8]] at hvv7
    refine va_calli (va_runV (As := [.int y0, .int 2, .int u1, .int u2, .int u3, .int u4]) (rest := []) ⟨hx, hb, hml, hown, hts⟩ (m_X9_tells l G (σ := σ) hvv7) (cwV 6 hts gX9_put_X9_tells rfl rfl rfl zh_X9_tells ⟨Nat.le_of_ble_eq_true rfl, Nat.le_of_ble_eq_true rfl⟩) ⟨zt_blind, va_recv hK hP (ci := 8) (q0 := 94) rfl (zt_a8 (rfl : zt_kd 94 = 8)), fun U hU hW => ⟨rfl, zt_go hE hP hS zt_id hU hW⟩⟩ rfl rfl hl.1 rfl (lv_room (Nat.le_of_ble_eq_true rfl)) dX9_put_31 ⟨Nat.zero_le _, Nat.zero_le _⟩) hS (fun _ _ h => h) (fun _ h => h) (fun r u t H locs ht hvm hw hB _ _ hS => ?_)
    rw [hw.1]; have hB : zt_B G u t := hB; rw [hw.2] at hB; have hP := zt_B.P hB ht
    exact W.iret hx hb hr (fun t ht hW => ⟨⟨_, _, rfl, (Prod.mk.inj (Option.some.inj hf)), zt_go hE hP hS zt_id ht hW⟩, hS.F ht⟩) hS.2.2 dX9_put_34
  have B24 : ∀ (σ : zt_St) (u1 : Int32) (u2 : Int32) (u3 : Int32) (u4 : Int32) (H : Heap) (locs : List Loc) (ls : Array Slot), f_X9_put_24 σ u1 u2 u3 u4 = some (r, σ1) → va_P (zt_D G) vwCl (zt_ww G σ) H → va_S (zt_A G) s.heap H locs → lv_has ls 5 [(1, .int u1), (2, .int u2), (3, .int u3), (4, .int u4)] → W p l e (zt_R 5 110) s m ([.ref (zt_ad G 94), .int x1, .int x2, .int x3, .int x4] : List Value).toArray below meth c H locs 0 0 (MQ below (zt_Ci G r σ1) ([.ref (zt_ad G 94), .int x1, .int x2, .int x3, .int x4] : List Value).toArray s 0 0 (zt_A G)) (F0 m 24 ls [.ref (zt_ad G 94)]) := by
    intro σ u1 u2 u3 u4 H locs ls hf hP hS hl
    unfold f_X9_put_24 at hf
    refine lv_iconst (v := 0) hx hb dX9_put_24 (by decide) ?_
    exact B25 σ 0 u1 u2 u3 u4 _ _ _ hf hP hS (lv_sub hl [0, 1, 2, 3] rfl)
  unfold f_X9_put at hf
  refine lv_aload_n hx hb dX9_put_0 rfl (lv_at hl 0 rfl) ?_
  refine lv_iload_n hx hb dX9_put_1 rfl (lv_at hl 2 rfl) ?_
  refine lv_iload_n hx hb dX9_put_2 rfl (lv_at hl 3 rfl) ?_
  obtain ⟨v1, hvv1, hf⟩ := zt_bd_some hf
  refine va_calli (va_runS (As := [.int x2, .int x3]) (rest := [.ref (zt_ad G 94)]) ⟨hx, hb, hml, hown, hts⟩ (m_X9_isNumber l G (σ := σ) hvv1) (va_cwS 2 hts gX9_put_X9_isNumber rfl rfl rfl zh_X9_isNumber ⟨Nat.le_of_ble_eq_true rfl, Nat.le_of_ble_eq_true rfl⟩) ⟨zt_blind, fun U hU hW => ⟨rfl, zt_go hE hP hS zt_id hU hW⟩⟩ rfl rfl hl.1 rfl (lv_room (Nat.le_of_ble_eq_true rfl)) dX9_put_3 ⟨Nat.zero_le _, Nat.zero_le _⟩) hS (fun _ _ h => h) (fun _ h => h) (fun r u t H locs ht hvm hw hB _ _ hS => ?_)
  rw [hw.1]; have hB : zt_B G u t := hB; rw [hw.2] at hB; have hP := zt_B.P hB ht
  refine lv_if_eq (tgt := 24) hx hb dX9_put_6 (by decide) (fun c3 => ?_) (fun c3 => ?_)
  · have hf := (if_pos c3).symm.trans hf
    exact B24 σ x1 x2 x3 x4 _ _ _ hf hP hS (lv_sub hl [1, 2, 3, 4] rfl)
  · have hf := (if_neg c3).symm.trans hf
    refine lv_iload hx hb dX9_put_9 (lv_at hl 4 rfl) ?_
    refine lv_iconst (v := 1) hx hb dX9_put_11 (by decide) ?_
    refine lv_bipush (v := 50) hx hb dX9_put_12 (by decide +kernel) ?_
    obtain ⟨v4, hvv4, hf⟩ := zt_bd_some hf
    refine va_calli (va_runS (As := [.int x4, .int 1, .int 50]) (rest := [.ref (zt_ad G 94)]) ⟨hx, hb, hml, hown, hts⟩ (m_X9_in l G (σ := σ) hvv4) (va_cwS 3 hts gX9_put_X9_in rfl rfl rfl zh_X9_in ⟨Nat.le_of_ble_eq_true rfl, Nat.le_of_ble_eq_true rfl⟩) ⟨zt_blind, fun U hU hW => ⟨rfl, zt_go hE hP hS zt_id hU hW⟩⟩ rfl rfl hl.1 rfl (lv_room (Nat.le_of_ble_eq_true rfl)) dX9_put_14 ⟨Nat.zero_le _, Nat.zero_le _⟩) hS (fun _ _ h => h) (fun _ h => h) (fun r u t H locs ht hvm hw hB _ _ hS => ?_)
    rw [hw.1]; have hB : zt_B G u t := hB; rw [hw.2] at hB; have hP := zt_B.P hB ht
    refine lv_if_eq (tgt := 24) hx hb dX9_put_17 (by decide) (fun c6 => ?_) (fun c6 => ?_)
    · have hf := (if_pos c6).symm.trans hf
      exact B24 σ x1 x2 x3 x4 _ _ _ hf hP hS (lv_sub hl [1, 2, 3, 4] rfl)
    · have hf := (if_neg c6).symm.trans hf
      refine lv_iconst (v := 1) hx hb dX9_put_20 (by decide) ?_
      refine lv_goto (tgt := 25) hx hb dX9_put_21 (by decide) ?_
      exact B25 σ 1 x1 x2 x3 x4 _ _ _ hf hP hS (lv_sub hl [1, 2, 3, 4] rfl)

theorem zh_X9_drop : yX9_drop.cls = RX9 ∧ yX9_drop.cls ≠ "java/lang/invoke/MethodHandle" ∧ yX9_drop.cls ≠ "java/lang/invoke/VarHandle" ∧ (parseMethodDescriptor yX9_drop.desc).map (fun d => d.parameters.length) = some 2 := by decide +kernel
set_option maxHeartbeats 4000000 in
set_option maxRecDepth 100000 in
theorem m_X9_drop (l : Launch) (G : zt_G) {σ : zt_St} {x1 : Int32} {x2 : Int32} {r : Int32} {σ1 : zt_St} (hf : f_X9_drop σ x1 x2 = some (r, σ1)) : zt_Mi l G yX9_drop wsX9_drop 5 110 [.ref (zt_ad G 94), .int x1, .int x2] σ r σ1 := by
  refine Met.ofW (cc := cX9_drop) (maxL := 3) (ret := (some .int)) (by decide) rfl ?_
  intro p e s m args below meth c s₁ B hml hv
  obtain ⟨rfl, hBB⟩ := hv
  have hE := zt_B.env hBB; have hK := hE.2.1; have hP := hBB.2.1
  have hx := B.exec; have hb := B.bytes; have hr := B.returns; have hts := atoms_spec (ws := wsX9_drop) B.pre
  have hown : s.vm.findClass RX9 = some m.cls := findClass_of_methodNamed B.named
  have hlocks := B.notSynchronized
  have hS : va_S (zt_A G) s.heap s.heap [] := va_S.rf
  have hl := lv_entry ([.ref (zt_ad G 94), .int x1, .int x2]) (n := 3) (Nat.le_of_ble_eq_true rfl)
  rw [lg_entry_eq]
  generalize (lg_sl ([.ref (zt_ad G 94), .int x1, .int x2]) ++ List.replicate (3 - (lg_sl ([.ref (zt_ad G 94), .int x1, .int x2])).length) Slot.unset).toArray = ls at hl ⊢
  have hl : lv_has ls 3 [(0, .ref (zt_ad G 94)), (1, .int x1), (2, .int x2)] := hl
  show W p l e (zt_R 5 110) s m ([.ref (zt_ad G 94), .int x1, .int x2] : List Value).toArray below meth c s.heap [] 0 0 (MQ below (zt_Ci G r σ1) ([.ref (zt_ad G 94), .int x1, .int x2] : List Value).toArray s 0 0 (zt_A G)) (F0 m 0 ls [])
  unfold f_X9_drop at hf
  refine lv_aload_n hx hb dX9_drop_0 rfl (lv_at hl 0 rfl) ?_
  refine lv_iconst (v := 1) hx hb dX9_drop_1 (by decide) ?_
  refine lv_iconst (v := 3) hx hb dX9_drop_2 (by decide) ?_
  refine lv_iload_n hx hb dX9_drop_3 rfl (lv_at hl 1 rfl) ?_
  refine lv_iload_n hx hb dX9_drop_4 rfl (lv_at hl 2 rfl) ?_
  refine lv_iconst (v := 0) hx hb dX9_drop_5 (by decide) ?_
  refine lv_iconst (v := 0) hx hb dX9_drop_6 (by decide) ?_
  obtain ⟨⟨v1a, σ2a⟩, hvv1, hf⟩ := zt_bd_some hf
  obtain ⟨v1, hv1, hf⟩ := zt_lt_some hf; obtain ⟨σ2, hσ2, hf⟩ := zt_lt_some hf; rw [show (v1a, σ2a) = (v1, σ2) from by rw [hv1, hσ2]] at hvv1
  refine va_calli (va_runV (As := [.int 1, .int 3, .int x1, .int x2, .int 0, .int 0]) (rest := []) ⟨hx, hb, hml, hown, hts⟩ (m_X9_tells l G (σ := σ) hvv1) (cwV 6 hts gX9_drop_X9_tells rfl rfl rfl zh_X9_tells ⟨Nat.le_of_ble_eq_true rfl, Nat.le_of_ble_eq_true rfl⟩) ⟨zt_blind, va_recv hK hP (ci := 8) (q0 := 94) rfl (zt_a8 (rfl : zt_kd 94 = 8)), fun U hU hW => ⟨rfl, zt_go hE hP hS zt_id hU hW⟩⟩ rfl rfl hl.1 rfl (lv_room (Nat.le_of_ble_eq_true rfl)) dX9_drop_7 ⟨Nat.zero_le _, Nat.zero_le _⟩) hS (fun _ _ h => h) (fun _ h => h) (fun r u t H locs ht hvm hw hB _ _ hS => ?_)
  rw [hw.1]; have hB : zt_B G u t := hB; rw [hw.2] at hB; have hP := zt_B.P hB ht
  exact W.iret hx hb hr (fun t ht hW => ⟨⟨_, _, rfl, (Prod.mk.inj (Option.some.inj hf)), zt_go hE hP hS zt_id ht hW⟩, hS.F ht⟩) hS.2.2 dX9_drop_10

theorem zh_X9_does : yX9_does.cls = RX9 ∧ yX9_does.cls ≠ "java/lang/invoke/MethodHandle" ∧ yX9_does.cls ≠ "java/lang/invoke/VarHandle" ∧ (parseMethodDescriptor yX9_does.desc).map (fun d => d.parameters.length) = some 2 := by decide +kernel
set_option maxHeartbeats 4000000 in
set_option maxRecDepth 100000 in
theorem m_X9_does (l : Launch) (G : zt_G) {σ : zt_St} {x1 : Int32} {x2 : Int32} {r : Int32} {σ1 : zt_St} (hf : f_X9_does σ x1 x2 = some (r, σ1)) : zt_Mi l G yX9_does wsX9_does 1 26 [.ref (zt_ad G 94), .int x1, .int x2] σ r σ1 := by
  refine Met.ofW (cc := cX9_does) (maxL := 5) (ret := (some .boolean)) (by decide) rfl ?_
  intro p e s m args below meth c s₁ B hml hv
  obtain ⟨rfl, hBB⟩ := hv
  have hE := zt_B.env hBB; have hK := hE.2.1; have hP := hBB.2.1
  have hx := B.exec; have hb := B.bytes; have hr := B.returns; have hts := atoms_spec (ws := wsX9_does) B.pre
  have hown : s.vm.findClass RX9 = some m.cls := findClass_of_methodNamed B.named
  have hlocks := B.notSynchronized
  have hS : va_S (zt_A G) s.heap s.heap [] := va_S.rf
  have hl := lv_entry ([.ref (zt_ad G 94), .int x1, .int x2]) (n := 5) (Nat.le_of_ble_eq_true rfl)
  rw [lg_entry_eq]
  generalize (lg_sl ([.ref (zt_ad G 94), .int x1, .int x2]) ++ List.replicate (5 - (lg_sl ([.ref (zt_ad G 94), .int x1, .int x2])).length) Slot.unset).toArray = ls at hl ⊢
  have hl : lv_has ls 5 [(0, .ref (zt_ad G 94)), (1, .int x1), (2, .int x2)] := hl
  show W p l e (zt_R 1 26) s m ([.ref (zt_ad G 94), .int x1, .int x2] : List Value).toArray below meth c s.heap [] 0 0 (MQ below (zt_Ci G r σ1) ([.ref (zt_ad G 94), .int x1, .int x2] : List Value).toArray s 0 0 (zt_A G)) (F0 m 0 ls [])
  have fl42 := hts (.fieldLink RX9 42 "ZoneTreeModel" "many" "[I") (List.mem_cons_of_mem _ (List.mem_append_left _ (List.mem_of_getElem? (i := 3) rfl)))
  have fl45 := hts (.fieldLink RX9 45 "ZoneTreeModel" "name" "[I") (List.mem_cons_of_mem _ (List.mem_append_left _ (List.mem_of_getElem? (i := 6) rfl)))
  have fl48 := hts (.fieldLink RX9 48 "ZoneTreeModel" "sort" "[I") (List.mem_cons_of_mem _ (List.mem_append_left _ (List.mem_of_getElem? (i := 7) rfl)))
  have fl51 := hts (.fieldLink RX9 51 "ZoneTreeModel" "number" "[I") (List.mem_cons_of_mem _ (List.mem_append_left _ (List.mem_of_getElem? (i := 8) rfl)))
  have fl54 := hts (.fieldLink RX9 54 "ZoneTreeModel" "life" "[I") (List.mem_cons_of_mem _ (List.mem_append_left _ (List.mem_of_getElem? (i := 9) rfl)))
  have fl57 := hts (.fieldLink RX9 57 "ZoneTreeModel" "part" "[I") (List.mem_cons_of_mem _ (List.mem_append_left _ (List.mem_of_getElem? (i := 0) rfl)))
  have fl60 := hts (.fieldLink RX9 60 "ZoneTreeModel" "partName" "[I") (List.mem_cons_of_mem _ (List.mem_append_left _ (List.mem_of_getElem? (i := 1) rfl)))
  have fl63 := hts (.fieldLink RX9 63 "ZoneTreeModel" "partSort" "[I") (List.mem_cons_of_mem _ (List.mem_append_left _ (List.mem_of_getElem? (i := 2) rfl)))
  have fl66 := hts (.fieldLink RX9 66 "ZoneTreeModel" "partNumber" "[I") (List.mem_cons_of_mem _ (List.mem_append_left _ (List.mem_of_getElem? (i := 4) rfl)))
  have fl69 := hts (.fieldLink RX9 69 "ZoneTreeModel" "partLife" "[I") (List.mem_cons_of_mem _ (List.mem_append_left _ (List.mem_of_getElem? (i := 5) rfl)))
  have inX9 : ∀ w ∈ wsX90, w ∈ wsX9_does := fun w h => (List.mem_cons_of_mem _ (List.mem_append_right _ h))
  have B50 : ∀ (σ : zt_St) (y0 : Int32) (y1 : Int32) (H : Heap) (locs : List Loc) (ls : Array Slot), f_X9_does_50 σ y0 y1 = some (r, σ1) → va_P (zt_D G) vwCl (zt_ww G σ) H → va_S (zt_A G) s.heap H locs → lv_has ls 5 [] → W p l e (zt_R 1 26) s m ([.ref (zt_ad G 94), .int x1, .int x2] : List Value).toArray below meth c H locs 0 0 (MQ below (zt_Ci G r σ1) ([.ref (zt_ad G 94), .int x1, .int x2] : List Value).toArray s 0 0 (zt_A G)) (F0 m 50 ls [.int y0, .int y1]) := by
    intro σ y0 y1 H locs ls hf hP hS hl
    unfold f_X9_does_50 at hf
    refine lv_icmp_ne (tgt := 57) hx hb dX9_does_50 (by decide) (fun c40 => ?_) (fun c40 => ?_)
    · have hf := (if_neg c40).symm.trans hf
      refine lv_iconst (v := 0) hx hb dX9_does_57 (by decide) ?_
      exact W.zret hx hb hr (zt_bn (by decide)).1 (fun t ht hW => ⟨⟨_, _, rfl, (Prod.mk.inj (Option.some.inj hf)), zt_go hE hP hS zt_id ht hW⟩, hS.F ht⟩) hS.2.2 dX9_does_58
    · have hf := (if_pos c40).symm.trans hf
      refine lv_iconst (v := 1) hx hb dX9_does_53 (by decide) ?_
      refine lv_goto (tgt := 58) hx hb dX9_does_54 (by decide) ?_
      exact W.zret hx hb hr (zt_bn (by decide)).1 (fun t ht hW => ⟨⟨_, _, rfl, (Prod.mk.inj (Option.some.inj hf)), zt_go hE hP hS zt_id ht hW⟩, hS.F ht⟩) hS.2.2 dX9_does_58
  have B36 : ∀ (σ : zt_St) (y0 : Int32) (u2 : Int32) (H : Heap) (locs : List Loc) (ls : Array Slot), f_X9_does_36 σ y0 u2 = some (r, σ1) → va_P (zt_D G) vwCl (zt_ww G σ) H → va_S (zt_A G) s.heap H locs → lv_has ls 5 [(0, .ref (zt_ad G 94)), (2, .int u2)] → W p l e (zt_R 1 26) s m ([.ref (zt_ad G 94), .int x1, .int x2] : List Value).toArray below meth c H locs 0 0 (MQ below (zt_Ci G r σ1) ([.ref (zt_ad G 94), .int x1, .int x2] : List Value).toArray s 0 0 (zt_A G)) (F0 m 36 ls [.int y0]) := by
    intro σ y0 u2 H locs ls hf hP hS hl
    unfold f_X9_does_36 at hf
    refine lv_aload_n hx hb dX9_does_36 rfl (lv_at hl 0 rfl) ?_
    refine va_get (D := zt_D G) (ci := 8) (v := .ref (zt_ad G 108)) (C := RX9) (T := TX9) (N := 37) hx hb hts inX9 hown hK hP 94 (zt_a8 (rfl : zt_kd 94 = 8)) rfl 18 (by decide) fl57 (fun _ h9 => h9) rfl dX9_does_37 ?_
    refine lv_iload_n hx hb dX9_does_40 rfl (lv_at hl 1 rfl) ?_
    obtain ⟨g36, hf⟩ := zt_gd_some hf
    refine va_iald hx hb hK hP 108 0 zt_a_108 rfl (zt_gI_in g36) dX9_does_41 ?_
    refine lv_if_ne (tgt := 49) hx hb dX9_does_42 (by decide) (fun c37 => ?_) (fun c37 => ?_)
    · have hf := (if_neg c37).symm.trans hf
      refine lv_iconst (v := 0) hx hb dX9_does_49 (by decide) ?_
      exact B50 σ 0 y0 _ _ _ hf hP hS (lv_sub hl [] rfl)
    · have hf := (if_pos c37).symm.trans hf
      refine lv_iconst (v := 1) hx hb dX9_does_45 (by decide) ?_
      refine lv_goto (tgt := 50) hx hb dX9_does_46 (by decide) ?_
      exact B50 σ 1 y0 _ _ _ hf hP hS (lv_sub hl [] rfl)
  have B160 : ∀ (σ : zt_St) (y0 : Int32) (y1 : Int32) (H : Heap) (locs : List Loc) (ls : Array Slot), f_X9_does_160 σ y0 y1 = some (r, σ1) → va_P (zt_D G) vwCl (zt_ww G σ) H → va_S (zt_A G) s.heap H locs → lv_has ls 5 [] → W p l e (zt_R 1 26) s m ([.ref (zt_ad G 94), .int x1, .int x2] : List Value).toArray below meth c H locs 0 0 (MQ below (zt_Ci G r σ1) ([.ref (zt_ad G 94), .int x1, .int x2] : List Value).toArray s 0 0 (zt_A G)) (F0 m 160 ls [.int y0, .int y1, .int 12, .ref (zt_ad G 103)]) := by
    intro σ y0 y1 H locs ls hf hP hS hl
    unfold f_X9_does_160 at hf
    refine lv_iadd hx hb dX9_does_160 ?_
    obtain ⟨σ39, hσ39, hf⟩ := zt_lt_some hf
    refine va_iast hx hb hK hP (zt_apart hE.1) hS 103 0 zt_a_103 rfl (zt_gI_in (show zt_gI 12 13 = true by decide +kernel)) dX9_does_161 (fun H locs hP _ hS => ?_)
    rw [zt_p_103, ← hσ39] at hP
    refine lv_iconst (v := 1) hx hb dX9_does_162 (by decide) ?_
    exact W.zret hx hb hr (zt_bn (by decide)).1 (fun t ht hW => ⟨⟨_, _, rfl, (Prod.mk.inj (Option.some.inj hf)), zt_go hE hP hS zt_id ht hW⟩, hS.F ht⟩) hS.2.2 dX9_does_163
  have B108 : ∀ (σ : zt_St) (y0 : Int32) (u2 : Int32) (u3 : Int32) (H : Heap) (locs : List Loc) (ls : Array Slot), f_X9_does_108 σ y0 u2 u3 = some (r, σ1) → va_P (zt_D G) vwCl (zt_ww G σ) H → va_S (zt_A G) s.heap H locs → lv_has ls 5 [(0, .ref (zt_ad G 94)), (2, .int u2), (3, .int u3)] → W p l e (zt_R 1 26) s m ([.ref (zt_ad G 94), .int x1, .int x2] : List Value).toArray below meth c H locs 0 0 (MQ below (zt_Ci G r σ1) ([.ref (zt_ad G 94), .int x1, .int x2] : List Value).toArray s 0 0 (zt_A G)) (F0 m 108 ls [.int y0]) := by
    intro σ y0 u2 u3 H locs ls hf hP hS hl
    unfold f_X9_does_108 at hf
    refine lv_istore (lv' := [(4, .int y0), (0, .ref (zt_ad G 94)), (2, .int u2), (3, .int u3)]) hx hb dX9_does_108 hl (by decide) rfl (fun ls hl => ?_)
    refine lv_aload_n hx hb dX9_does_110 rfl (lv_at hl 1 rfl) ?_
    refine lv_bipush (v := 12) hx hb dX9_does_111 (by decide +kernel) ?_
    refine lv_iload hx hb dX9_does_113 (lv_at hl 0 rfl) ?_
    refine lv_aload_n hx hb dX9_does_115 rfl (lv_at hl 1 rfl) ?_
    refine va_get (D := zt_D G) (ci := 8) (v := .ref (zt_ad G 109)) (C := RX9) (T := TX9) (N := 37) hx hb hts inX9 hown hK hP 94 (zt_a8 (rfl : zt_kd 94 = 8)) rfl 19 (by decide) fl60 (fun _ h9 => h9) rfl dX9_does_116 ?_
    refine lv_iload_n hx hb dX9_does_119 rfl (lv_at hl 2 rfl) ?_
    obtain ⟨g28, hf⟩ := zt_gd_some hf
    refine va_iald hx hb hK hP 109 0 zt_a_109 rfl (zt_gI_in g28) dX9_does_120 ?_
    refine lv_aload_n hx hb dX9_does_121 rfl (lv_at hl 1 rfl) ?_
    refine va_get (D := zt_D G) (ci := 8) (v := .ref (zt_ad G 110)) (C := RX9) (T := TX9) (N := 37) hx hb hts inX9 hown hK hP 94 (zt_a8 (rfl : zt_kd 94 = 8)) rfl 20 (by decide) fl63 (fun _ h9 => h9) rfl dX9_does_122 ?_
    refine lv_iload_n hx hb dX9_does_125 rfl (lv_at hl 2 rfl) ?_
    obtain ⟨g29, hf⟩ := zt_gd_some hf
    refine va_iald hx hb hK hP 110 0 zt_a_110 rfl (zt_gI_in g29) dX9_does_126 ?_
    refine lv_aload_n hx hb dX9_does_127 rfl (lv_at hl 1 rfl) ?_
    refine va_get (D := zt_D G) (ci := 8) (v := .ref (zt_ad G 111)) (C := RX9) (T := TX9) (N := 37) hx hb hts inX9 hown hK hP 94 (zt_a8 (rfl : zt_kd 94 = 8)) rfl 21 (by decide) fl66 (fun _ h9 => h9) rfl dX9_does_128 ?_
    refine lv_iload_n hx hb dX9_does_131 rfl (lv_at hl 2 rfl) ?_
    obtain ⟨g30, hf⟩ := zt_gd_some hf
    refine va_iald hx hb hK hP 111 0 zt_a_111 rfl (zt_gI_in g30) dX9_does_132 ?_
    refine lv_aload_n hx hb dX9_does_133 rfl (lv_at hl 1 rfl) ?_
    refine va_get (D := zt_D G) (ci := 8) (v := .ref (zt_ad G 112)) (C := RX9) (T := TX9) (N := 37) hx hb hts inX9 hown hK hP 94 (zt_a8 (rfl : zt_kd 94 = 8)) rfl 22 (by decide) fl69 (fun _ h9 => h9) rfl dX9_does_134 ?_
    refine lv_iload_n hx hb dX9_does_137 rfl (lv_at hl 2 rfl) ?_
    obtain ⟨g31, hf⟩ := zt_gd_some hf
    refine va_iald hx hb hK hP 112 0 zt_a_112 rfl (zt_gI_in g31) dX9_does_138 ?_
    obtain ⟨σ33, hvv32, hf⟩ := zt_bd_some hf
    refine va_callv (va_runV (As := [.int 12, .int y0, .int (σ 109 u2.toNatClampNeg), .int (σ 110 u2.toNatClampNeg), .int (σ 111 u2.toNatClampNeg), .int (σ 112 u2.toNatClampNeg)]) (rest := []) ⟨hx, hb, hml, hown, hts⟩ (m_X9_lays l G (σ := σ) hvv32) (cwV 6 hts gX9_does_X9_lays rfl rfl rfl zh_X9_lays ⟨Nat.le_of_ble_eq_true rfl, Nat.le_of_ble_eq_true rfl⟩) ⟨zt_blind, va_recv hK hP (ci := 8) (q0 := 94) rfl (zt_a8 (rfl : zt_kd 94 = 8)), fun U hU hW => ⟨rfl, zt_go hE hP hS zt_id hU hW⟩⟩ rfl rfl hl.1 rfl (lv_room (Nat.le_of_ble_eq_true rfl)) dX9_does_139 ⟨Nat.zero_le _, Nat.zero_le _⟩) hS (fun _ _ h => h) (fun _ h => h) (fun u t H locs ht hvm hw hB _ _ hS => ?_)
    have hB : zt_B G u t := hB; rw [hw] at hB; have hP := zt_B.P hB ht
    refine lv_aload_n hx hb dX9_does_142 rfl (lv_at hl 1 rfl) ?_
    refine va_get (D := zt_D G) (ci := 8) (v := .ref (zt_ad G 103)) (C := RX9) (T := TX9) (N := 37) hx hb hts inX9 hown hK hP 94 (zt_a8 (rfl : zt_kd 94 = 8)) rfl 12 (by decide) fl42 (fun _ h9 => h9) rfl dX9_does_143 ?_
    refine lv_bipush (v := 12) hx hb dX9_does_146 (by decide +kernel) ?_
    refine lv_dup2_11 hx hb dX9_does_148 rfl rfl ?_
    refine va_iald hx hb hK hP 103 0 zt_a_103 rfl (zt_gI_in (show zt_gI 12 13 = true by decide +kernel)) dX9_does_149 ?_
    refine lv_iload_n hx hb dX9_does_150 rfl (lv_at hl 3 rfl) ?_
    refine lv_iconst (v := (-1)) hx hb dX9_does_151 (by decide) ?_
    refine lv_icmp_ne (tgt := 159) hx hb dX9_does_152 (by decide) (fun c35 => ?_) (fun c35 => ?_)
    · have hf := (if_neg c35).symm.trans hf
      refine lv_iconst (v := 0) hx hb dX9_does_159 (by decide) ?_
      exact B160 σ33 0 (σ33 103 (12 : Int32).toNatClampNeg) _ _ _ hf hP hS (lv_sub hl [] rfl)
    · have hf := (if_pos c35).symm.trans hf
      refine lv_iconst (v := 1) hx hb dX9_does_155 (by decide) ?_
      refine lv_goto (tgt := 160) hx hb dX9_does_156 (by decide) ?_
      exact B160 σ33 1 (σ33 103 (12 : Int32).toNatClampNeg) _ _ _ hf hP hS (lv_sub hl [] rfl)
  have B234 : ∀ (σ : zt_St) (u3 : Int32) (H : Heap) (locs : List Loc) (ls : Array Slot), f_X9_does_234 σ u3 = some (r, σ1) → va_P (zt_D G) vwCl (zt_ww G σ) H → va_S (zt_A G) s.heap H locs → lv_has ls 5 [(3, .int u3)] → W p l e (zt_R 1 26) s m ([.ref (zt_ad G 94), .int x1, .int x2] : List Value).toArray below meth c H locs 0 0 (MQ below (zt_Ci G r σ1) ([.ref (zt_ad G 94), .int x1, .int x2] : List Value).toArray s 0 0 (zt_A G)) (F0 m 234 ls []) := by
    intro σ u3 H locs ls hf hP hS hl
    unfold f_X9_does_234 at hf
    refine lv_iload_n hx hb dX9_does_234 rfl (lv_at hl 0 rfl) ?_
    refine lv_iconst (v := (-1)) hx hb dX9_does_235 (by decide) ?_
    refine lv_icmp_eq (tgt := 243) hx hb dX9_does_236 (by decide) (fun c27 => ?_) (fun c27 => ?_)
    · have hf := (if_pos c27).symm.trans hf
      refine lv_iconst (v := 0) hx hb dX9_does_243 (by decide) ?_
      exact W.zret hx hb hr (zt_bn (by decide)).1 (fun t ht hW => ⟨⟨_, _, rfl, (Prod.mk.inj (Option.some.inj hf)), zt_go hE hP hS zt_id ht hW⟩, hS.F ht⟩) hS.2.2 dX9_does_244
    · have hf := (if_neg c27).symm.trans hf
      refine lv_iconst (v := 1) hx hb dX9_does_239 (by decide) ?_
      refine lv_goto (tgt := 244) hx hb dX9_does_240 (by decide) ?_
      exact W.zret hx hb hr (zt_bn (by decide)).1 (fun t ht hW => ⟨⟨_, _, rfl, (Prod.mk.inj (Option.some.inj hf)), zt_go hE hP hS zt_id ht hW⟩, hS.F ht⟩) hS.2.2 dX9_does_244
  unfold f_X9_does at hf
  refine lv_aload_n hx hb dX9_does_0 rfl (lv_at hl 0 rfl) ?_
  refine va_get (D := zt_D G) (ci := 8) (v := .ref (zt_ad G 108)) (C := RX9) (T := TX9) (N := 37) hx hb hts inX9 hown hK hP 94 (zt_a8 (rfl : zt_kd 94 = 8)) rfl 18 (by decide) fl57 (fun _ h9 => h9) rfl dX9_does_1 ?_
  refine lv_iload_n hx hb dX9_does_4 rfl (lv_at hl 2 rfl) ?_
  obtain ⟨g1, hf⟩ := zt_gd_some hf
  refine va_iald hx hb hK hP 108 0 zt_a_108 rfl (zt_gI_in g1) dX9_does_5 ?_
  refine lv_iconst (v := 2) hx hb dX9_does_6 (by decide) ?_
  refine lv_icmp_ge (tgt := 59) hx hb dX9_does_7 (by decide) (fun c2 => ?_) (fun c2 => ?_)
  · have hf := (if_pos c2).symm.trans hf
    refine lv_aload_n hx hb dX9_does_59 rfl (lv_at hl 0 rfl) ?_
    refine lv_bipush (v := 12) hx hb dX9_does_60 (by decide +kernel) ?_
    refine lv_aload_n hx hb dX9_does_62 rfl (lv_at hl 0 rfl) ?_
    refine va_get (D := zt_D G) (ci := 8) (v := .ref (zt_ad G 109)) (C := RX9) (T := TX9) (N := 37) hx hb hts inX9 hown hK hP 94 (zt_a8 (rfl : zt_kd 94 = 8)) rfl 19 (by decide) fl60 (fun _ h9 => h9) rfl dX9_does_63 ?_
    refine lv_iload_n hx hb dX9_does_66 rfl (lv_at hl 2 rfl) ?_
    obtain ⟨g3, hf⟩ := zt_gd_some hf
    refine va_iald hx hb hK hP 109 0 zt_a_109 rfl (zt_gI_in g3) dX9_does_67 ?_
    refine lv_aload_n hx hb dX9_does_68 rfl (lv_at hl 0 rfl) ?_
    refine va_get (D := zt_D G) (ci := 8) (v := .ref (zt_ad G 110)) (C := RX9) (T := TX9) (N := 37) hx hb hts inX9 hown hK hP 94 (zt_a8 (rfl : zt_kd 94 = 8)) rfl 20 (by decide) fl63 (fun _ h9 => h9) rfl dX9_does_69 ?_
    refine lv_iload_n hx hb dX9_does_72 rfl (lv_at hl 2 rfl) ?_
    obtain ⟨g4, hf⟩ := zt_gd_some hf
    refine va_iald hx hb hK hP 110 0 zt_a_110 rfl (zt_gI_in g4) dX9_does_73 ?_
    obtain ⟨v5, hvv5, hf⟩ := zt_bd_some hf
    refine va_calli (va_runV (As := [.int 12, .int (σ 109 x2.toNatClampNeg), .int (σ 110 x2.toNatClampNeg)]) (rest := []) ⟨hx, hb, hml, hown, hts⟩ (m_X9_find l G (σ := σ) hvv5) (cwV 3 hts gX9_does_X9_find rfl rfl rfl zh_X9_find ⟨Nat.le_of_ble_eq_true rfl, Nat.le_of_ble_eq_true rfl⟩) ⟨zt_blind, va_recv hK hP (ci := 8) (q0 := 94) rfl (zt_a8 (rfl : zt_kd 94 = 8)), fun U hU hW => ⟨rfl, zt_go hE hP hS zt_id hU hW⟩⟩ rfl rfl hl.1 rfl (lv_room (Nat.le_of_ble_eq_true rfl)) dX9_does_74 ⟨Nat.zero_le _, Nat.zero_le _⟩) hS (fun _ _ h => h) (fun _ h => h) (fun r u t H locs ht hvm hw hB _ _ hS => ?_)
    rw [hw.1]; have hB : zt_B G u t := hB; rw [hw.2] at hB; have hP := zt_B.P hB ht
    refine lv_istore_n (lv' := [(3, .int v5), (0, .ref (zt_ad G 94)), (1, .int x1), (2, .int x2)]) hx hb dX9_does_77 rfl hl (by decide) rfl (fun ls hl => ?_)
    refine lv_aload_n hx hb dX9_does_78 rfl (lv_at hl 1 rfl) ?_
    refine va_get (D := zt_D G) (ci := 8) (v := .ref (zt_ad G 108)) (C := RX9) (T := TX9) (N := 37) hx hb hts inX9 hown hK hP 94 (zt_a8 (rfl : zt_kd 94 = 8)) rfl 18 (by decide) fl57 (fun _ h9 => h9) rfl dX9_does_79 ?_
    refine lv_iload_n hx hb dX9_does_82 rfl (lv_at hl 3 rfl) ?_
    obtain ⟨g7, hf⟩ := zt_gd_some hf
    refine va_iald hx hb hK hP 108 0 zt_a_108 rfl (zt_gI_in g7) dX9_does_83 ?_
    refine lv_iconst (v := 2) hx hb dX9_does_84 (by decide) ?_
    refine lv_icmp_ne (tgt := 164) hx hb dX9_does_85 (by decide) (fun c8 => ?_) (fun c8 => ?_)
    · have hf := (if_neg c8).symm.trans hf
      refine lv_iload_n hx hb dX9_does_164 rfl (lv_at hl 0 rfl) ?_
      refine lv_iconst (v := (-1)) hx hb dX9_does_165 (by decide) ?_
      refine lv_icmp_eq (tgt := 234) hx hb dX9_does_166 (by decide) (fun c9 => ?_) (fun c9 => ?_)
      · have hf := (if_pos c9).symm.trans hf
        exact B234 σ v5 _ _ _ hf hP hS (lv_sub hl [0] rfl)
      · have hf := (if_neg c9).symm.trans hf
        refine lv_sipush (v := 384) hx hb dX9_does_169 (by decide +kernel) ?_
        refine lv_aload_n hx hb dX9_does_172 rfl (lv_at hl 1 rfl) ?_
        refine va_get (D := zt_D G) (ci := 8) (v := .ref (zt_ad G 103)) (C := RX9) (T := TX9) (N := 37) hx hb hts inX9 hown hK hP 94 (zt_a8 (rfl : zt_kd 94 = 8)) rfl 12 (by decide) fl42 (fun _ h9 => h9) rfl dX9_does_173 ?_
        refine lv_bipush (v := 12) hx hb dX9_does_176 (by decide +kernel) ?_
        refine va_iald hx hb hK hP 103 0 zt_a_103 rfl (zt_gI_in (show zt_gI 12 13 = true by decide +kernel)) dX9_does_178 ?_
        refine lv_iadd hx hb dX9_does_179 ?_
        refine lv_iconst (v := 1) hx hb dX9_does_180 (by decide) ?_
        refine lv_isub hx hb dX9_does_181 ?_
        refine lv_istore (lv' := [(4, .int ((384 + (σ 103 (12 : Int32).toNatClampNeg)) - 1)), (3, .int v5), (0, .ref (zt_ad G 94)), (1, .int x1), (2, .int x2)]) hx hb dX9_does_182 hl (by decide) rfl (fun ls hl => ?_)
        refine lv_aload_n hx hb dX9_does_184 rfl (lv_at hl 2 rfl) ?_
        refine lv_bipush (v := 12) hx hb dX9_does_185 (by decide +kernel) ?_
        refine lv_iload_n hx hb dX9_does_187 rfl (lv_at hl 1 rfl) ?_
        refine lv_sipush (v := 384) hx hb dX9_does_188 (by decide +kernel) ?_
        refine lv_isub hx hb dX9_does_191 ?_
        refine lv_aload_n hx hb dX9_does_192 rfl (lv_at hl 2 rfl) ?_
        refine va_get (D := zt_D G) (ci := 8) (v := .ref (zt_ad G 104)) (C := RX9) (T := TX9) (N := 37) hx hb hts inX9 hown hK hP 94 (zt_a8 (rfl : zt_kd 94 = 8)) rfl 13 (by decide) fl45 (fun _ h9 => h9) rfl dX9_does_193 ?_
        refine lv_iload hx hb dX9_does_196 (lv_at hl 0 rfl) ?_
        obtain ⟨g11, hf⟩ := zt_gd_some hf
        refine va_iald hx hb hK hP 104 0 zt_a_104 rfl (zt_gI_in g11) dX9_does_198 ?_
        refine lv_aload_n hx hb dX9_does_199 rfl (lv_at hl 2 rfl) ?_
        refine va_get (D := zt_D G) (ci := 8) (v := .ref (zt_ad G 105)) (C := RX9) (T := TX9) (N := 37) hx hb hts inX9 hown hK hP 94 (zt_a8 (rfl : zt_kd 94 = 8)) rfl 14 (by decide) fl48 (fun _ h9 => h9) rfl dX9_does_200 ?_
        refine lv_iload hx hb dX9_does_203 (lv_at hl 0 rfl) ?_
        obtain ⟨g12, hf⟩ := zt_gd_some hf
        refine va_iald hx hb hK hP 105 0 zt_a_105 rfl (zt_gI_in g12) dX9_does_205 ?_
        refine lv_aload_n hx hb dX9_does_206 rfl (lv_at hl 2 rfl) ?_
        refine va_get (D := zt_D G) (ci := 8) (v := .ref (zt_ad G 106)) (C := RX9) (T := TX9) (N := 37) hx hb hts inX9 hown hK hP 94 (zt_a8 (rfl : zt_kd 94 = 8)) rfl 15 (by decide) fl51 (fun _ h9 => h9) rfl dX9_does_207 ?_
        refine lv_iload hx hb dX9_does_210 (lv_at hl 0 rfl) ?_
        obtain ⟨g13, hf⟩ := zt_gd_some hf
        refine va_iald hx hb hK hP 106 0 zt_a_106 rfl (zt_gI_in g13) dX9_does_212 ?_
        refine lv_aload_n hx hb dX9_does_213 rfl (lv_at hl 2 rfl) ?_
        refine va_get (D := zt_D G) (ci := 8) (v := .ref (zt_ad G 107)) (C := RX9) (T := TX9) (N := 37) hx hb hts inX9 hown hK hP 94 (zt_a8 (rfl : zt_kd 94 = 8)) rfl 16 (by decide) fl54 (fun _ h9 => h9) rfl dX9_does_214 ?_
        refine lv_iload hx hb dX9_does_217 (lv_at hl 0 rfl) ?_
        obtain ⟨g14, hf⟩ := zt_gd_some hf
        refine va_iald hx hb hK hP 107 0 zt_a_107 rfl (zt_gI_in g14) dX9_does_219 ?_
        obtain ⟨σ16, hvv15, hf⟩ := zt_bd_some hf
        refine va_callv (va_runV (As := [.int 12, .int (v5 - 384), .int (σ 104 ((384 + (σ 103 (12 : Int32).toNatClampNeg)) - 1).toNatClampNeg), .int (σ 105 ((384 + (σ 103 (12 : Int32).toNatClampNeg)) - 1).toNatClampNeg), .int (σ 106 ((384 + (σ 103 (12 : Int32).toNatClampNeg)) - 1).toNatClampNeg), .int (σ 107 ((384 + (σ 103 (12 : Int32).toNatClampNeg)) - 1).toNatClampNeg)]) (rest := []) ⟨hx, hb, hml, hown, hts⟩ (m_X9_lays l G (σ := σ) hvv15) (cwV 6 hts gX9_does_X9_lays rfl rfl rfl zh_X9_lays ⟨Nat.le_of_ble_eq_true rfl, Nat.le_of_ble_eq_true rfl⟩) ⟨zt_blind, va_recv hK hP (ci := 8) (q0 := 94) rfl (zt_a8 (rfl : zt_kd 94 = 8)), fun U hU hW => ⟨rfl, zt_go hE hP hS zt_id hU hW⟩⟩ rfl rfl hl.1 rfl (lv_room (Nat.le_of_ble_eq_true rfl)) dX9_does_220 ⟨Nat.zero_le _, Nat.zero_le _⟩) hS (fun _ _ h => h) (fun _ h => h) (fun u t H locs ht hvm hw hB _ _ hS => ?_)
        have hB : zt_B G u t := hB; rw [hw] at hB; have hP := zt_B.P hB ht
        refine lv_aload_n hx hb dX9_does_223 rfl (lv_at hl 2 rfl) ?_
        refine va_get (D := zt_D G) (ci := 8) (v := .ref (zt_ad G 103)) (C := RX9) (T := TX9) (N := 37) hx hb hts inX9 hown hK hP 94 (zt_a8 (rfl : zt_kd 94 = 8)) rfl 12 (by decide) fl42 (fun _ h9 => h9) rfl dX9_does_224 ?_
        refine lv_bipush (v := 12) hx hb dX9_does_227 (by decide +kernel) ?_
        refine lv_dup2_11 hx hb dX9_does_229 rfl rfl ?_
        refine va_iald hx hb hK hP 103 0 zt_a_103 rfl (zt_gI_in (show zt_gI 12 13 = true by decide +kernel)) dX9_does_230 ?_
        refine lv_iconst (v := 1) hx hb dX9_does_231 (by decide) ?_
        refine lv_isub hx hb dX9_does_232 ?_
        obtain ⟨σ19, hσ19, hf⟩ := zt_lt_some hf
        refine va_iast hx hb hK hP (zt_apart hE.1) hS 103 0 zt_a_103 rfl (zt_gI_in (show zt_gI 12 13 = true by decide +kernel)) dX9_does_233 (fun H locs hP _ hS => ?_)
        rw [zt_p_103, ← hσ19] at hP
        exact B234 σ19 v5 _ _ _ hf hP hS (lv_sub hl [1] rfl)
    · have hf := (if_pos c8).symm.trans hf
      refine lv_iload_n hx hb dX9_does_88 rfl (lv_at hl 0 rfl) ?_
      refine lv_iconst (v := (-1)) hx hb dX9_does_89 (by decide) ?_
      refine lv_icmp_ne (tgt := 103) hx hb dX9_does_90 (by decide) (fun c20 => ?_) (fun c20 => ?_)
      · have hf := (if_neg c20).symm.trans hf
        refine lv_iload_n hx hb dX9_does_103 rfl (lv_at hl 0 rfl) ?_
        refine lv_sipush (v := 384) hx hb dX9_does_104 (by decide +kernel) ?_
        refine lv_isub hx hb dX9_does_107 ?_
        exact B108 σ (v5 - 384) x2 v5 _ _ _ hf hP hS (lv_sub hl [1, 3, 0] rfl)
      · have hf := (if_pos c20).symm.trans hf
        refine lv_aload_n hx hb dX9_does_93 rfl (lv_at hl 1 rfl) ?_
        refine va_get (D := zt_D G) (ci := 8) (v := .ref (zt_ad G 103)) (C := RX9) (T := TX9) (N := 37) hx hb hts inX9 hown hK hP 94 (zt_a8 (rfl : zt_kd 94 = 8)) rfl 12 (by decide) fl42 (fun _ h9 => h9) rfl dX9_does_94 ?_
        refine lv_bipush (v := 12) hx hb dX9_does_97 (by decide +kernel) ?_
        refine va_iald hx hb hK hP 103 0 zt_a_103 rfl (zt_gI_in (show zt_gI 12 13 = true by decide +kernel)) dX9_does_99 ?_
        refine lv_goto (tgt := 108) hx hb dX9_does_100 (by decide) ?_
        exact B108 σ (σ 103 (12 : Int32).toNatClampNeg) x2 v5 _ _ _ hf hP hS (lv_sub hl [1, 3, 0] rfl)
  · have hf := (if_neg c2).symm.trans hf
    refine lv_aload_n hx hb dX9_does_10 rfl (lv_at hl 0 rfl) ?_
    refine lv_iload_n hx hb dX9_does_11 rfl (lv_at hl 1 rfl) ?_
    refine lv_aload_n hx hb dX9_does_12 rfl (lv_at hl 0 rfl) ?_
    refine va_get (D := zt_D G) (ci := 8) (v := .ref (zt_ad G 109)) (C := RX9) (T := TX9) (N := 37) hx hb hts inX9 hown hK hP 94 (zt_a8 (rfl : zt_kd 94 = 8)) rfl 19 (by decide) fl60 (fun _ h9 => h9) rfl dX9_does_13 ?_
    refine lv_iload_n hx hb dX9_does_16 rfl (lv_at hl 2 rfl) ?_
    obtain ⟨g22, hf⟩ := zt_gd_some hf
    refine va_iald hx hb hK hP 109 0 zt_a_109 rfl (zt_gI_in g22) dX9_does_17 ?_
    refine lv_aload_n hx hb dX9_does_18 rfl (lv_at hl 0 rfl) ?_
    refine va_get (D := zt_D G) (ci := 8) (v := .ref (zt_ad G 110)) (C := RX9) (T := TX9) (N := 37) hx hb hts inX9 hown hK hP 94 (zt_a8 (rfl : zt_kd 94 = 8)) rfl 20 (by decide) fl63 (fun _ h9 => h9) rfl dX9_does_19 ?_
    refine lv_iload_n hx hb dX9_does_22 rfl (lv_at hl 2 rfl) ?_
    obtain ⟨g23, hf⟩ := zt_gd_some hf
    refine va_iald hx hb hK hP 110 0 zt_a_110 rfl (zt_gI_in g23) dX9_does_23 ?_
    obtain ⟨v24, hvv24, hf⟩ := zt_bd_some hf
    refine va_calli (va_runV (As := [.int x1, .int (σ 109 x2.toNatClampNeg), .int (σ 110 x2.toNatClampNeg)]) (rest := []) ⟨hx, hb, hml, hown, hts⟩ (m_X9_find l G (σ := σ) hvv24) (cwV 3 hts gX9_does_X9_find rfl rfl rfl zh_X9_find ⟨Nat.le_of_ble_eq_true rfl, Nat.le_of_ble_eq_true rfl⟩) ⟨zt_blind, va_recv hK hP (ci := 8) (q0 := 94) rfl (zt_a8 (rfl : zt_kd 94 = 8)), fun U hU hW => ⟨rfl, zt_go hE hP hS zt_id hU hW⟩⟩ rfl rfl hl.1 rfl (lv_room (Nat.le_of_ble_eq_true rfl)) dX9_does_24 ⟨Nat.zero_le _, Nat.zero_le _⟩) hS (fun _ _ h => h) (fun _ h => h) (fun r u t H locs ht hvm hw hB _ _ hS => ?_)
    rw [hw.1]; have hB : zt_B G u t := hB; rw [hw.2] at hB; have hP := zt_B.P hB ht
    refine lv_iconst (v := (-1)) hx hb dX9_does_27 (by decide) ?_
    refine lv_icmp_eq (tgt := 35) hx hb dX9_does_28 (by decide) (fun c26 => ?_) (fun c26 => ?_)
    · have hf := (if_pos c26).symm.trans hf
      refine lv_iconst (v := 0) hx hb dX9_does_35 (by decide) ?_
      exact B36 σ 0 x2 _ _ _ hf hP hS (lv_sub hl [0, 2] rfl)
    · have hf := (if_neg c26).symm.trans hf
      refine lv_iconst (v := 1) hx hb dX9_does_31 (by decide) ?_
      refine lv_goto (tgt := 36) hx hb dX9_does_32 (by decide) ?_
      exact B36 σ 1 x2 _ _ _ hf hP hS (lv_sub hl [0, 2] rfl)

theorem zh_X9_update : yX9_update.cls = RX9 ∧ yX9_update.cls ≠ "java/lang/invoke/MethodHandle" ∧ yX9_update.cls ≠ "java/lang/invoke/VarHandle" ∧ (parseMethodDescriptor yX9_update.desc).map (fun d => d.parameters.length) = some 1 := by decide +kernel
set_option maxHeartbeats 4000000 in
set_option maxRecDepth 100000 in
theorem m_X9_update (l : Launch) (G : zt_G) {σ : zt_St} {x1 : Int32} {r : Int32} {σ1 : zt_St} (hf : f_X9_update σ x1 = some (r, σ1)) : zt_Mi l G yX9_update wsX9_update 5 114 [.ref (zt_ad G 94), .int x1] σ r σ1 := by
  refine Met.ofW (cc := cX9_update) (maxL := 4) (ret := (some .boolean)) (by decide) rfl ?_
  intro p e s m args below meth c s₁ B hml hv
  obtain ⟨rfl, hBB⟩ := hv
  have hE := zt_B.env hBB; have hK := hE.2.1; have hP := hBB.2.1
  have hx := B.exec; have hb := B.bytes; have hr := B.returns; have hts := atoms_spec (ws := wsX9_update) B.pre
  have hown : s.vm.findClass RX9 = some m.cls := findClass_of_methodNamed B.named
  have hlocks := B.notSynchronized
  have hS : va_S (zt_A G) s.heap s.heap [] := va_S.rf
  have hl := lv_entry ([.ref (zt_ad G 94), .int x1]) (n := 4) (Nat.le_of_ble_eq_true rfl)
  rw [lg_entry_eq]
  generalize (lg_sl ([.ref (zt_ad G 94), .int x1]) ++ List.replicate (4 - (lg_sl ([.ref (zt_ad G 94), .int x1])).length) Slot.unset).toArray = ls at hl ⊢
  have hl : lv_has ls 4 [(0, .ref (zt_ad G 94)), (1, .int x1)] := hl
  show W p l e (zt_R 5 114) s m ([.ref (zt_ad G 94), .int x1] : List Value).toArray below meth c s.heap [] 0 0 (MQ below (zt_Ci G r σ1) ([.ref (zt_ad G 94), .int x1] : List Value).toArray s 0 0 (zt_A G)) (F0 m 0 ls [])
  have fl20 := hts (.fieldLink RX9 20 "ZoneTreeModel" "serial" "[I") (List.mem_cons_of_mem _ (List.mem_append_left _ (List.mem_append_left _ (List.mem_of_getElem? (i := 1) rfl))))
  have fl149 := hts (.fieldLink RX9 149 "ZoneTreeModel" "parts" "I") (List.mem_cons_of_mem _ (List.mem_append_left _ (List.mem_append_left _ (List.mem_of_getElem? (i := 0) rfl))))
  have inX9 : ∀ w ∈ wsX90, w ∈ wsX9_update := fun w h => (List.mem_cons_of_mem _ (List.mem_append_right _ h))
  have B72 : ∀ (σ : zt_St) (y0 : Int32) (u1 : Int32) (H : Heap) (locs : List Loc) (ls : Array Slot), f_X9_update_72 σ y0 u1 = some (r, σ1) → va_P (zt_D G) vwCl (zt_ww G σ) H → va_S (zt_A G) s.heap H locs → lv_has ls 4 [(0, .ref (zt_ad G 94)), (1, .int u1)] → W p l e (zt_R 5 114) s m ([.ref (zt_ad G 94), .int x1] : List Value).toArray below meth c H locs 0 0 (MQ below (zt_Ci G r σ1) ([.ref (zt_ad G 94), .int x1] : List Value).toArray s 0 0 (zt_A G)) (F0 m 72 ls [.int y0]) := by
    intro σ y0 u1 H locs ls hf hP hS hl
    unfold f_X9_update_72 at hf
    refine lv_istore_n (lv' := [(2, .int y0), (0, .ref (zt_ad G 94)), (1, .int u1)]) hx hb dX9_update_72 rfl hl (by decide) rfl (fun ls hl => ?_)
    refine lv_iload_n hx hb dX9_update_73 rfl (lv_at hl 0 rfl) ?_
    refine lv_if_eq (tgt := 101) hx hb dX9_update_74 (by decide) (fun c19 => ?_) (fun c19 => ?_)
    · have hf := (if_pos c19).symm.trans hf
      refine lv_iload_n hx hb dX9_update_101 rfl (lv_at hl 0 rfl) ?_
      obtain ⟨g20, hf⟩ := zt_gd_some hf
      exact W.zret hx hb hr (zt_bn g20).1 (fun t ht hW => ⟨⟨_, _, rfl, (Prod.mk.inj (Option.some.inj hf)), zt_go hE hP hS zt_id ht hW⟩, hS.F ht⟩) hS.2.2 dX9_update_102
    · have hf := (if_neg c19).symm.trans hf
      refine lv_aload_n hx hb dX9_update_77 rfl (lv_at hl 1 rfl) ?_
      refine lv_bipush (v := 12) hx hb dX9_update_78 (by decide +kernel) ?_
      refine lv_iload_n hx hb dX9_update_80 rfl (lv_at hl 2 rfl) ?_
      obtain ⟨σ22, hvv21, hf⟩ := zt_bd_some hf
      refine va_callv (va_runV (As := [.int 12, .int u1]) (rest := []) ⟨hx, hb, hml, hown, hts⟩ (m_X9_copies l G (σ := σ) hvv21) (cwV 2 hts gX9_update_X9_copies rfl rfl rfl zh_X9_copies ⟨Nat.le_of_ble_eq_true rfl, Nat.le_of_ble_eq_true rfl⟩) ⟨zt_blind, va_recv hK hP (ci := 8) (q0 := 94) rfl (zt_a8 (rfl : zt_kd 94 = 8)), fun U hU hW => ⟨rfl, zt_go hE hP hS zt_id hU hW⟩⟩ rfl rfl hl.1 rfl (lv_room (Nat.le_of_ble_eq_true rfl)) dX9_update_81 ⟨Nat.zero_le _, Nat.zero_le _⟩) hS (fun _ _ h => h) (fun _ h => h) (fun u t H locs ht hvm hw hB _ _ hS => ?_)
      have hB : zt_B G u t := hB; rw [hw] at hB; have hP := zt_B.P hB ht
      refine lv_aload_n hx hb dX9_update_84 rfl (lv_at hl 1 rfl) ?_
      refine va_get (D := zt_D G) (ci := 8) (v := .ref (zt_ad G 97)) (C := RX9) (T := TX9) (N := 37) hx hb hts inX9 hown hK hP 94 (zt_a8 (rfl : zt_kd 94 = 8)) rfl 5 (by decide) fl20 (fun _ h9 => h9) rfl dX9_update_85 ?_
      refine lv_iload_n hx hb dX9_update_88 rfl (lv_at hl 2 rfl) ?_
      refine lv_aload_n hx hb dX9_update_89 rfl (lv_at hl 1 rfl) ?_
      refine va_get (D := zt_D G) (ci := 8) (v := .ref (zt_ad G 97)) (C := RX9) (T := TX9) (N := 37) hx hb hts inX9 hown hK hP 94 (zt_a8 (rfl : zt_kd 94 = 8)) rfl 5 (by decide) fl20 (fun _ h9 => h9) rfl dX9_update_90 ?_
      refine lv_iload_n hx hb dX9_update_93 rfl (lv_at hl 2 rfl) ?_
      obtain ⟨g23, hf⟩ := zt_gd_some hf
      refine va_iald hx hb hK hP 97 0 zt_a_97 rfl (zt_gI_in g23) dX9_update_94 ?_
      refine lv_iconst (v := 1) hx hb dX9_update_95 (by decide) ?_
      refine lv_iadd hx hb dX9_update_96 ?_
      refine lv_bipush (v := 16) hx hb dX9_update_97 (by decide +kernel) ?_
      refine lv_irem hx hb dX9_update_99 (by decide) ?_
      obtain ⟨g24, hf⟩ := zt_gd_some hf
      obtain ⟨σ25, hσ25, hf⟩ := zt_lt_some hf
      refine va_iast hx hb hK hP (zt_apart hE.1) hS 97 0 zt_a_97 rfl (zt_gI_in g24) dX9_update_100 (fun H locs hP _ hS => ?_)
      rw [zt_p_97, ← hσ25] at hP
      refine lv_iload_n hx hb dX9_update_101 rfl (lv_at hl 0 rfl) ?_
      obtain ⟨g26, hf⟩ := zt_gd_some hf
      exact W.zret hx hb hr (zt_bn g26).1 (fun t ht hW => ⟨⟨_, _, rfl, (Prod.mk.inj (Option.some.inj hf)), zt_go hE hP hS zt_id ht hW⟩, hS.F ht⟩) hS.2.2 dX9_update_102
  have B71 : ∀ (σ : zt_St) (u1 : Int32) (H : Heap) (locs : List Loc) (ls : Array Slot), f_X9_update_71 σ u1 = some (r, σ1) → va_P (zt_D G) vwCl (zt_ww G σ) H → va_S (zt_A G) s.heap H locs → lv_has ls 4 [(0, .ref (zt_ad G 94)), (1, .int u1)] → W p l e (zt_R 5 114) s m ([.ref (zt_ad G 94), .int x1] : List Value).toArray below meth c H locs 0 0 (MQ below (zt_Ci G r σ1) ([.ref (zt_ad G 94), .int x1] : List Value).toArray s 0 0 (zt_A G)) (F0 m 71 ls []) := by
    intro σ u1 H locs ls hf hP hS hl
    unfold f_X9_update_71 at hf
    refine lv_iconst (v := 0) hx hb dX9_update_71 (by decide) ?_
    exact B72 σ 0 u1 _ _ _ hf hP hS (lv_sub hl [0, 1] rfl)
  have B50 : ∀ (σ : zt_St) (u1 : Int32) (u2 : Int32) (H : Heap) (locs : List Loc) (ls : Array Slot), f_X9_update_50 σ u1 u2 = some (r, σ1) → va_P (zt_D G) vwCl (zt_ww G σ) H → va_S (zt_A G) s.heap H locs → lv_has ls 4 [(0, .ref (zt_ad G 94)), (1, .int u1), (2, .int u2)] → W p l e (zt_R 5 114) s m ([.ref (zt_ad G 94), .int x1] : List Value).toArray below meth c H locs 0 0 (MQ below (zt_Ci G r σ1) ([.ref (zt_ad G 94), .int x1] : List Value).toArray s 0 0 (zt_A G)) (F0 m 50 ls []) := by
    intro σ u1 u2 H locs ls hf hP hS hl
    unfold f_X9_update_50 at hf
    refine lv_aload_n hx hb dX9_update_50 rfl (lv_at hl 0 rfl) ?_
    refine lv_iconst (v := 0) hx hb dX9_update_51 (by decide) ?_
    obtain ⟨σ14, hσ14, hf⟩ := zt_lt_some hf
    refine va_put (D := zt_D G) (ci := 8) (v := .int 0) (ty := .int) (C := RX9) (T := TX9) (N := 37) hx hb hts inX9 tyX9 tyX9_ok nmX9 hown hK hP (zt_apart hE.1) hS 94 (zt_a8 (rfl : zt_kd 94 = 8)) rfl 17 (by decide) fl149 (fun _ h9 => h9) rfl (tyX9_ok 17 (by decide)) rfl rfl (Nat.le_of_ble_eq_true rfl) dX9_update_52 (fun H locs hP _ hS => ?_)
    rw [zt_p8_17 (rfl : zt_kd 94 = 8), ← hσ14] at hP
    refine lv_iload_n hx hb dX9_update_55 rfl (lv_at hl 2 rfl) ?_
    refine lv_if_eq (tgt := 71) hx hb dX9_update_56 (by decide) (fun c15 => ?_) (fun c15 => ?_)
    · have hf := (if_pos c15).symm.trans hf
      exact B71 σ14 u1 _ _ _ hf hP hS (lv_sub hl [0, 1] rfl)
    · have hf := (if_neg c15).symm.trans hf
      refine lv_aload_n hx hb dX9_update_59 rfl (lv_at hl 0 rfl) ?_
      refine lv_iload_n hx hb dX9_update_60 rfl (lv_at hl 1 rfl) ?_
      obtain ⟨v16, hvv16, hf⟩ := zt_bd_some hf
      refine va_calli (va_runV (As := [.int u1]) (rest := []) ⟨hx, hb, hml, hown, hts⟩ (m_X9_fits l G (σ := σ14) hvv16) (cwV 1 hts gX9_update_X9_fits rfl rfl rfl zh_X9_fits ⟨Nat.le_of_ble_eq_true rfl, Nat.le_of_ble_eq_true rfl⟩) ⟨zt_blind, va_recv hK hP (ci := 8) (q0 := 94) rfl (zt_a8 (rfl : zt_kd 94 = 8)), fun U hU hW => ⟨rfl, zt_go hE hP hS zt_id hU hW⟩⟩ rfl rfl hl.1 rfl (lv_room (Nat.le_of_ble_eq_true rfl)) dX9_update_61 ⟨Nat.zero_le _, Nat.zero_le _⟩) hS (fun _ _ h => h) (fun _ h => h) (fun r u t H locs ht hvm hw hB _ _ hS => ?_)
      rw [hw.1]; have hB : zt_B G u t := hB; rw [hw.2] at hB; have hP := zt_B.P hB ht
      refine lv_if_eq (tgt := 71) hx hb dX9_update_64 (by decide) (fun c18 => ?_) (fun c18 => ?_)
      · have hf := (if_pos c18).symm.trans hf
        exact B71 σ14 u1 _ _ _ hf hP hS (lv_sub hl [0, 1] rfl)
      · have hf := (if_neg c18).symm.trans hf
        refine lv_iconst (v := 1) hx hb dX9_update_67 (by decide) ?_
        refine lv_goto (tgt := 72) hx hb dX9_update_68 (by decide) ?_
        exact B72 σ14 1 u1 _ _ _ hf hP hS (lv_sub hl [0, 1] rfl)
  have B25 : ∀ (n : Nat), ∀ (σ : zt_St) (u1 : Int32) (u2 : Int32) (u3 : Int32) (H : Heap) (locs : List Loc) (ls : Array Slot), f_X9_update_25 n σ u1 u2 u3 = some (r, σ1) → va_P (zt_D G) vwCl (zt_ww G σ) H → va_S (zt_A G) s.heap H locs → lv_has ls 4 [(0, .ref (zt_ad G 94)), (1, .int u1), (2, .int u2), (3, .int u3)] → W p l e (zt_R 5 114) s m ([.ref (zt_ad G 94), .int x1] : List Value).toArray below meth c H locs 0 0 (MQ below (zt_Ci G r σ1) ([.ref (zt_ad G 94), .int x1] : List Value).toArray s 0 0 (zt_A G)) (F0 m 25 ls []) := by
    intro n
    induction n with
    | zero => intro σ u1 u2 u3 H locs ls hf; exact nomatch hf
    | succ n hrc25 =>
      intro σ u1 u2 u3 H locs ls hf hP hS hl
      generalize hrcg : f_X9_update_25 n = rc25 at hrc25
      have hf : f_X9_update_25b rc25 σ u1 u2 u3 = some (r, σ1) := by rw [← hrcg]; exact hf
      unfold f_X9_update_25b at hf
      refine lv_iload_n hx hb dX9_update_25 rfl (lv_at hl 3 rfl) ?_
      refine lv_aload_n hx hb dX9_update_26 rfl (lv_at hl 0 rfl) ?_
      refine va_get (D := zt_D G) (ci := 8) (v := .int (σ 94 17)) (C := RX9) (T := TX9) (N := 37) hx hb hts inX9 hown hK hP 94 (zt_a8 (rfl : zt_kd 94 = 8)) rfl 17 (by decide) fl149 (fun _ h9 => h9) rfl dX9_update_27 ?_
      refine lv_icmp_ge (tgt := 50) hx hb dX9_update_30 (by decide) (fun c9 => ?_) (fun c9 => ?_)
      · have hf := (if_pos c9).symm.trans hf
        exact B50 σ u1 u2 _ _ _ hf hP hS (lv_sub hl [0, 1, 2] rfl)
      · have hf := (if_neg c9).symm.trans hf
        refine lv_iload_n hx hb dX9_update_33 rfl (lv_at hl 2 rfl) ?_
        refine lv_if_eq (tgt := 50) hx hb dX9_update_34 (by decide) (fun c10 => ?_) (fun c10 => ?_)
        · have hf := (if_pos c10).symm.trans hf
          exact B50 σ u1 u2 _ _ _ hf hP hS (lv_sub hl [0, 1, 2] rfl)
        · have hf := (if_neg c10).symm.trans hf
          refine lv_aload_n hx hb dX9_update_37 rfl (lv_at hl 0 rfl) ?_
          refine lv_iload_n hx hb dX9_update_38 rfl (lv_at hl 1 rfl) ?_
          refine lv_iload_n hx hb dX9_update_39 rfl (lv_at hl 3 rfl) ?_
          obtain ⟨⟨v11a, σ12a⟩, hvv11, hf⟩ := zt_bd_some hf
          obtain ⟨v11, hv11, hf⟩ := zt_lt_some hf; obtain ⟨σ12, hσ12, hf⟩ := zt_lt_some hf; rw [show (v11a, σ12a) = (v11, σ12) from by rw [hv11, hσ12]] at hvv11
          refine va_calli (va_runV (As := [.int u1, .int u3]) (rest := []) ⟨hx, hb, hml, hown, hts⟩ (m_X9_does l G (σ := σ) hvv11) (cwV 2 hts gX9_update_X9_does rfl rfl rfl zh_X9_does ⟨Nat.le_of_ble_eq_true rfl, Nat.le_of_ble_eq_true rfl⟩) ⟨zt_blind, va_recv hK hP (ci := 8) (q0 := 94) rfl (zt_a8 (rfl : zt_kd 94 = 8)), fun U hU hW => ⟨rfl, zt_go hE hP hS zt_id hU hW⟩⟩ rfl rfl hl.1 rfl (lv_room (Nat.le_of_ble_eq_true rfl)) dX9_update_40 ⟨Nat.zero_le _, Nat.zero_le _⟩) hS (fun _ _ h => h) (fun _ h => h) (fun r u t H locs ht hvm hw hB _ _ hS => ?_)
          rw [hw.1]; have hB : zt_B G u t := hB; rw [hw.2] at hB; have hP := zt_B.P hB ht
          refine lv_istore_n (lv' := [(2, .int v11), (0, .ref (zt_ad G 94)), (1, .int u1), (3, .int u3)]) hx hb dX9_update_43 rfl hl (by decide) rfl (fun ls hl => ?_)
          refine lv_iinc (v := (u3 + 1)) (lv' := [(3, .int (u3 + 1)), (2, .int v11), (0, .ref (zt_ad G 94)), (1, .int u1)]) hx hb dX9_update_44 hl (k := 3) rfl rfl (by decide) rfl (fun ls hl => ?_)
          refine lv_goto (tgt := 25) hx hb dX9_update_47 (by decide) ?_
          exact hrc25 σ12 u1 v11 (u3 + 1) _ _ _ hf hP hS (lv_sub hl [2, 3, 1, 0] rfl)
  unfold f_X9_update at hf
  refine lv_aload_n hx hb dX9_update_0 rfl (lv_at hl 0 rfl) ?_
  refine lv_aload_n hx hb dX9_update_1 rfl (lv_at hl 0 rfl) ?_
  refine lv_iload_n hx hb dX9_update_2 rfl (lv_at hl 1 rfl) ?_
  obtain ⟨v1, hvv1, hf⟩ := zt_bd_some hf
  refine va_calli (va_runV (As := [.int x1]) (rest := [.ref (zt_ad G 94)]) ⟨hx, hb, hml, hown, hts⟩ (m_X9_isZone l G (σ := σ) hvv1) (cwV 1 hts gX9_update_X9_isZone rfl rfl rfl zh_X9_isZone ⟨Nat.le_of_ble_eq_true rfl, Nat.le_of_ble_eq_true rfl⟩) ⟨zt_blind, va_recv hK hP (ci := 8) (q0 := 94) rfl (zt_a8 (rfl : zt_kd 94 = 8)), fun U hU hW => ⟨rfl, zt_go hE hP hS zt_id hU hW⟩⟩ rfl rfl hl.1 rfl (lv_room (Nat.le_of_ble_eq_true rfl)) dX9_update_3 ⟨Nat.zero_le _, Nat.zero_le _⟩) hS (fun _ _ h => h) (fun _ h => h) (fun r u t H locs ht hvm hw hB _ _ hS => ?_)
  rw [hw.1]; have hB : zt_B G u t := hB; rw [hw.2] at hB; have hP := zt_B.P hB ht
  obtain ⟨⟨v3a, σ4a⟩, hvv3, hf⟩ := zt_bd_some hf
  obtain ⟨v3, hv3, hf⟩ := zt_lt_some hf; obtain ⟨σ4, hσ4, hf⟩ := zt_lt_some hf; rw [show (v3a, σ4a) = (v3, σ4) from by rw [hv3, hσ4]] at hvv3
  refine va_calli (va_runV (As := [.int v1]) (rest := []) ⟨hx, hb, hml, hown, hts⟩ (m_X9_asked l G (σ := σ) hvv3) (cwV 1 hts gX9_update_X9_asked rfl rfl rfl zh_X9_asked ⟨Nat.le_of_ble_eq_true rfl, Nat.le_of_ble_eq_true rfl⟩) ⟨zt_blind, va_recv hK hP (ci := 8) (q0 := 94) rfl (zt_a8 (rfl : zt_kd 94 = 8)), fun U hU hW => ⟨rfl, zt_go hE hP hS zt_id hU hW⟩⟩ rfl rfl hl.1 rfl (lv_room (Nat.le_of_ble_eq_true rfl)) dX9_update_6 ⟨Nat.zero_le _, Nat.zero_le _⟩) hS (fun _ _ h => h) (fun _ h => h) (fun r u t H locs ht hvm hw hB _ _ hS => ?_)
  rw [hw.1]; have hB : zt_B G u t := hB; rw [hw.2] at hB; have hP := zt_B.P hB ht
  refine lv_if_ne (tgt := 14) hx hb dX9_update_9 (by decide) (fun c6 => ?_) (fun c6 => ?_)
  · have hf := (if_neg c6).symm.trans hf
    refine lv_aload_n hx hb dX9_update_14 rfl (lv_at hl 0 rfl) ?_
    refine lv_iload_n hx hb dX9_update_15 rfl (lv_at hl 1 rfl) ?_
    refine lv_bipush (v := 12) hx hb dX9_update_16 (by decide +kernel) ?_
    obtain ⟨σ8, hvv7, hf⟩ := zt_bd_some hf
    refine va_callv (va_runV (As := [.int x1, .int 12]) (rest := []) ⟨hx, hb, hml, hown, hts⟩ (m_X9_copies l G (σ := σ4) hvv7) (cwV 2 hts gX9_update_X9_copies rfl rfl rfl zh_X9_copies ⟨Nat.le_of_ble_eq_true rfl, Nat.le_of_ble_eq_true rfl⟩) ⟨zt_blind, va_recv hK hP (ci := 8) (q0 := 94) rfl (zt_a8 (rfl : zt_kd 94 = 8)), fun U hU hW => ⟨rfl, zt_go hE hP hS zt_id hU hW⟩⟩ rfl rfl hl.1 rfl (lv_room (Nat.le_of_ble_eq_true rfl)) dX9_update_18 ⟨Nat.zero_le _, Nat.zero_le _⟩) hS (fun _ _ h => h) (fun _ h => h) (fun u t H locs ht hvm hw hB _ _ hS => ?_)
    have hB : zt_B G u t := hB; rw [hw] at hB; have hP := zt_B.P hB ht
    refine lv_iconst (v := 1) hx hb dX9_update_21 (by decide) ?_
    refine lv_istore_n (lv' := [(2, .int 1), (0, .ref (zt_ad G 94)), (1, .int x1)]) hx hb dX9_update_22 rfl hl (by decide) rfl (fun ls hl => ?_)
    refine lv_iconst (v := 0) hx hb dX9_update_23 (by decide) ?_
    refine lv_istore_n (lv' := [(3, .int 0), (2, .int 1), (0, .ref (zt_ad G 94)), (1, .int x1)]) hx hb dX9_update_24 rfl hl (by decide) rfl (fun ls hl => ?_)
    exact B25 zt_FU σ8 x1 1 0 _ _ _ hf hP hS (lv_sub hl [2, 3, 1, 0] rfl)
  · have hf := (if_pos c6).symm.trans hf
    refine lv_iconst (v := 0) hx hb dX9_update_12 (by decide) ?_
    exact W.zret hx hb hr (zt_bn (by decide)).1 (fun t ht hW => ⟨⟨_, _, rfl, (Prod.mk.inj (Option.some.inj hf)), zt_go hE hP hS zt_id ht hW⟩, hS.F ht⟩) hS.2.2 dX9_update_13

theorem zh_X9_wasAhead : yX9_wasAhead.cls = RX9 ∧ yX9_wasAhead.cls ≠ "java/lang/invoke/MethodHandle" ∧ yX9_wasAhead.cls ≠ "java/lang/invoke/VarHandle" ∧ (parseMethodDescriptor yX9_wasAhead.desc).map (fun d => d.parameters.length) = some 3 := by decide +kernel
set_option maxHeartbeats 4000000 in
set_option maxRecDepth 100000 in
theorem m_X9_wasAhead (l : Launch) (G : zt_G) {σ : zt_St} {x1 : Int32} {x2 : Int32} {x3 : Int32} {r : Int32} (hf : f_X9_wasAhead σ x1 x2 x3 = some r) : zt_Mi l G yX9_wasAhead wsX9_wasAhead 3 65 [.ref (zt_ad G 94), .int x1, .int x2, .int x3] σ r σ := by
  refine Met.ofW (cc := cX9_wasAhead) (maxL := 6) (ret := (some .boolean)) (by decide) rfl ?_
  intro p e s m args below meth c s₁ B hml hv
  obtain ⟨rfl, hBB⟩ := hv
  have hE := zt_B.env hBB; have hK := hE.2.1; have hP := hBB.2.1
  have hx := B.exec; have hb := B.bytes; have hr := B.returns; have hts := atoms_spec (ws := wsX9_wasAhead) B.pre
  have hown : s.vm.findClass RX9 = some m.cls := findClass_of_methodNamed B.named
  have hlocks := B.notSynchronized
  have hS : va_S (zt_A G) s.heap s.heap [] := va_S.rf
  have hl := lv_entry ([.ref (zt_ad G 94), .int x1, .int x2, .int x3]) (n := 6) (Nat.le_of_ble_eq_true rfl)
  rw [lg_entry_eq]
  generalize (lg_sl ([.ref (zt_ad G 94), .int x1, .int x2, .int x3]) ++ List.replicate (6 - (lg_sl ([.ref (zt_ad G 94), .int x1, .int x2, .int x3])).length) Slot.unset).toArray = ls at hl ⊢
  have hl : lv_has ls 6 [(0, .ref (zt_ad G 94)), (1, .int x1), (2, .int x2), (3, .int x3)] := hl
  show W p l e (zt_R 3 65) s m ([.ref (zt_ad G 94), .int x1, .int x2, .int x3] : List Value).toArray below meth c s.heap [] 0 0 (MQ below (zt_Ci G r σ) ([.ref (zt_ad G 94), .int x1, .int x2, .int x3] : List Value).toArray s 0 0 (zt_A G)) (F0 m 0 ls [])
  have fl45 := hts (.fieldLink RX9 45 "ZoneTreeModel" "name" "[I") (List.mem_cons_of_mem _ (List.mem_append_left _ (List.mem_of_getElem? (i := 0) rfl)))
  have inX9 : ∀ w ∈ wsX90, w ∈ wsX9_wasAhead := fun w h => (List.mem_cons_of_mem _ (List.mem_append_right _ h))
  have B9 : ∀ (n : Nat), ∀ (u2 : Int32) (u3 : Int32) (u4 : Int32) (u5 : Int32) (H : Heap) (locs : List Loc) (ls : Array Slot), f_X9_wasAhead_9 σ n u2 u3 u4 u5 = some r → va_P (zt_D G) vwCl (zt_ww G σ) H → va_S (zt_A G) s.heap H locs → lv_has ls 6 [(0, .ref (zt_ad G 94)), (2, .int u2), (3, .int u3), (4, .int u4), (5, .int u5)] → W p l e (zt_R 3 65) s m ([.ref (zt_ad G 94), .int x1, .int x2, .int x3] : List Value).toArray below meth c H locs 0 0 (MQ below (zt_Ci G r σ) ([.ref (zt_ad G 94), .int x1, .int x2, .int x3] : List Value).toArray s 0 0 (zt_A G)) (F0 m 9 ls []) := by
    intro n
    induction n with
    | zero => intro u2 u3 u4 u5 H locs ls hf; exact nomatch hf
    | succ n hrc9 =>
      intro u2 u3 u4 u5 H locs ls hf hP hS hl
      generalize hrcg : f_X9_wasAhead_9 σ n = rc9 at hrc9
      have hf : f_X9_wasAhead_9b σ rc9 u2 u3 u4 u5 = some r := by rw [← hrcg]; exact hf
      unfold f_X9_wasAhead_9b at hf
      refine lv_iload hx hb dX9_wasAhead_9 (lv_at hl 4 rfl) ?_
      refine lv_iload_n hx hb dX9_wasAhead_11 rfl (lv_at hl 1 rfl) ?_
      refine lv_icmp_ge (tgt := 40) hx hb dX9_wasAhead_12 (by decide) (fun c1 => ?_) (fun c1 => ?_)
      · have hf := (if_pos c1).symm.trans hf
        refine lv_iload hx hb dX9_wasAhead_40 (lv_at hl 3 rfl) ?_
        obtain ⟨g2, hf⟩ := zt_gd_some hf
        exact W.zret hx hb hr (zt_bn g2).1 (fun t ht hW => ⟨⟨_, _, rfl, ⟨Option.some.inj hf, rfl⟩, zt_go hE hP hS zt_id ht hW⟩, hS.F ht⟩) hS.2.2 dX9_wasAhead_42
      · have hf := (if_neg c1).symm.trans hf
        refine lv_iload hx hb dX9_wasAhead_15 (lv_at hl 3 rfl) ?_
        refine lv_aload_n hx hb dX9_wasAhead_17 rfl (lv_at hl 0 rfl) ?_
        refine va_get (D := zt_D G) (ci := 8) (v := .ref (zt_ad G 104)) (C := RX9) (T := TX9) (N := 37) hx hb hts inX9 hown hK hP 94 (zt_a8 (rfl : zt_kd 94 = 8)) rfl 13 (by decide) fl45 (fun _ h9 => h9) rfl dX9_wasAhead_18 ?_
        refine lv_iload hx hb dX9_wasAhead_21 (lv_at hl 4 rfl) ?_
        obtain ⟨g3, hf⟩ := zt_gd_some hf
        refine va_iald hx hb hK hP 104 0 zt_a_104 rfl (zt_gI_in g3) dX9_wasAhead_23 ?_
        obtain ⟨v4, hvv4, hf⟩ := zt_bd_some hf
        refine va_calli (va_runS (As := [.int (σ 104 u5.toNatClampNeg)]) (rest := [.int u4]) ⟨hx, hb, hml, hown, hts⟩ (m_X9_base l G (σ := σ) hvv4) (va_cwS 1 hts gX9_wasAhead_X9_base rfl rfl rfl zh_X9_base ⟨Nat.le_of_ble_eq_true rfl, Nat.le_of_ble_eq_true rfl⟩) ⟨zt_blind, fun U hU hW => ⟨rfl, zt_go hE hP hS zt_id hU hW⟩⟩ rfl rfl hl.1 rfl (lv_room (Nat.le_of_ble_eq_true rfl)) dX9_wasAhead_24 ⟨Nat.zero_le _, Nat.zero_le _⟩) hS (fun _ _ h => h) (fun _ h => h) (fun r u t H locs ht hvm hw hB _ _ hS => ?_)
        rw [hw.1]; have hB : zt_B G u t := hB; rw [hw.2] at hB; have hP := zt_B.P hB ht
        refine lv_iload_n hx hb dX9_wasAhead_27 rfl (lv_at hl 2 rfl) ?_
        obtain ⟨v6, hvv6, hf⟩ := zt_bd_some hf
        refine va_calli (va_runS (As := [.int v4, .int u3]) (rest := [.int u4]) ⟨hx, hb, hml, hown, hts⟩ (m_X9_isUnder l G (σ := σ) hvv6) (va_cwS 2 hts gX9_wasAhead_X9_isUnder rfl rfl rfl zh_X9_isUnder ⟨Nat.le_of_ble_eq_true rfl, Nat.le_of_ble_eq_true rfl⟩) ⟨zt_blind, fun U hU hW => ⟨rfl, zt_go hE hP hS zt_id hU hW⟩⟩ rfl rfl hl.1 rfl (lv_room (Nat.le_of_ble_eq_true rfl)) dX9_wasAhead_28 ⟨Nat.zero_le _, Nat.zero_le _⟩) hS (fun _ _ h => h) (fun _ h => h) (fun r u t H locs ht hvm hw hB _ _ hS => ?_)
        rw [hw.1]; have hB : zt_B G u t := hB; rw [hw.2] at hB; have hP := zt_B.P hB ht
        refine lv_ior hx hb dX9_wasAhead_31 ?_
        refine lv_istore (lv' := [(4, .int (u4 ||| v6)), (0, .ref (zt_ad G 94)), (2, .int u2), (3, .int u3), (5, .int u5)]) hx hb dX9_wasAhead_32 hl (by decide) rfl (fun ls hl => ?_)
        refine lv_iinc (v := (u5 + 1)) (lv' := [(5, .int (u5 + 1)), (4, .int (u4 ||| v6)), (0, .ref (zt_ad G 94)), (2, .int u2), (3, .int u3)]) hx hb dX9_wasAhead_34 hl (k := 4) rfl rfl (by decide) rfl (fun ls hl => ?_)
        refine lv_goto (tgt := 9) hx hb dX9_wasAhead_37 (by decide) ?_
        exact hrc9 u2 u3 (u4 ||| v6) (u5 + 1) _ _ _ hf hP hS (lv_sub hl [2, 3, 4, 1, 0] rfl)
  unfold f_X9_wasAhead at hf
  refine lv_iconst (v := 0) hx hb dX9_wasAhead_0 (by decide) ?_
  refine lv_istore (lv' := [(4, .int 0), (0, .ref (zt_ad G 94)), (1, .int x1), (2, .int x2), (3, .int x3)]) hx hb dX9_wasAhead_1 hl (by decide) rfl (fun ls hl => ?_)
  refine lv_bipush (v := 32) hx hb dX9_wasAhead_3 (by decide +kernel) ?_
  refine lv_iload_n hx hb dX9_wasAhead_5 rfl (lv_at hl 2 rfl) ?_
  refine lv_imul hx hb dX9_wasAhead_6 ?_
  refine lv_istore (lv' := [(5, .int (32 * x1)), (4, .int 0), (0, .ref (zt_ad G 94)), (1, .int x1), (2, .int x2), (3, .int x3)]) hx hb dX9_wasAhead_7 hl (by decide) rfl (fun ls hl => ?_)
  exact B9 zt_FU x2 x3 0 (32 * x1) _ _ _ hf hP hS (lv_sub hl [2, 4, 5, 1, 0] rfl)

theorem zh_X9_names : yX9_names.cls = RX9 ∧ yX9_names.cls ≠ "java/lang/invoke/MethodHandle" ∧ yX9_names.cls ≠ "java/lang/invoke/VarHandle" ∧ (parseMethodDescriptor yX9_names.desc).map (fun d => d.parameters.length) = some 1 := by decide +kernel
set_option maxHeartbeats 4000000 in
set_option maxRecDepth 100000 in
theorem m_X9_names (l : Launch) (G : zt_G) {σ : zt_St} {x1 : Int32} {r : Int32} (hf : f_X9_names σ x1 = some r) : zt_Mi l G yX9_names wsX9_names 4 90 [.ref (zt_ad G 94), .int x1] σ r σ := by
  refine Met.ofW (cc := cX9_names) (maxL := 6) (ret := (some .int)) (by decide) rfl ?_
  intro p e s m args below meth c s₁ B hml hv
  obtain ⟨rfl, hBB⟩ := hv
  have hE := zt_B.env hBB; have hK := hE.2.1; have hP := hBB.2.1
  have hx := B.exec; have hb := B.bytes; have hr := B.returns; have hts := atoms_spec (ws := wsX9_names) B.pre
  have hown : s.vm.findClass RX9 = some m.cls := findClass_of_methodNamed B.named
  have hlocks := B.notSynchronized
  have hS : va_S (zt_A G) s.heap s.heap [] := va_S.rf
  have hl := lv_entry ([.ref (zt_ad G 94), .int x1]) (n := 6) (Nat.le_of_ble_eq_true rfl)
  rw [lg_entry_eq]
  generalize (lg_sl ([.ref (zt_ad G 94), .int x1]) ++ List.replicate (6 - (lg_sl ([.ref (zt_ad G 94), .int x1])).length) Slot.unset).toArray = ls at hl ⊢
  have hl : lv_has ls 6 [(0, .ref (zt_ad G 94)), (1, .int x1)] := hl
  show W p l e (zt_R 4 90) s m ([.ref (zt_ad G 94), .int x1] : List Value).toArray below meth c s.heap [] 0 0 (MQ below (zt_Ci G r σ) ([.ref (zt_ad G 94), .int x1] : List Value).toArray s 0 0 (zt_A G)) (F0 m 0 ls [])
  have fl13 := hts (.fieldLink RX9 13 "ZoneTreeModel" "apex" "[I") (List.mem_cons_of_mem _ (List.mem_append_left _ (List.mem_append_left _ (List.mem_of_getElem? (i := 1) rfl))))
  have fl42 := hts (.fieldLink RX9 42 "ZoneTreeModel" "many" "[I") (List.mem_cons_of_mem _ (List.mem_append_left _ (List.mem_append_left _ (List.mem_of_getElem? (i := 0) rfl))))
  have fl45 := hts (.fieldLink RX9 45 "ZoneTreeModel" "name" "[I") (List.mem_cons_of_mem _ (List.mem_append_left _ (List.mem_append_left _ (List.mem_of_getElem? (i := 2) rfl))))
  have inX9 : ∀ w ∈ wsX90, w ∈ wsX9_names := fun w h => (List.mem_cons_of_mem _ (List.mem_append_right _ h))
  have B93 : ∀ (rc7 : Int32 → Int32 → Int32 → Option (Int32)) (hrc7 : ∀ (u1 : Int32) (u2 : Int32) (u3 : Int32) (H : Heap) (locs : List Loc) (ls : Array Slot), rc7 u1 u2 u3 = some r → va_P (zt_D G) vwCl (zt_ww G σ) H → va_S (zt_A G) s.heap H locs → lv_has ls 6 [(0, .ref (zt_ad G 94)), (1, .int u1), (2, .int u2), (3, .int u3)] → W p l e (zt_R 4 90) s m ([.ref (zt_ad G 94), .int x1] : List Value).toArray below meth c H locs 0 0 (MQ below (zt_Ci G r σ) ([.ref (zt_ad G 94), .int x1] : List Value).toArray s 0 0 (zt_A G)) (F0 m 7 ls [])) (rc33 : Int32 → Int32 → Int32 → Int32 → Option (Int32)) (hrc33 : ∀ (u1 : Int32) (u2 : Int32) (u3 : Int32) (u4 : Int32) (H : Heap) (locs : List Loc) (ls : Array Slot), rc33 u1 u2 u3 u4 = some r → va_P (zt_D G) vwCl (zt_ww G σ) H → va_S (zt_A G) s.heap H locs → lv_has ls 6 [(0, .ref (zt_ad G 94)), (1, .int u1), (2, .int u2), (3, .int u3), (4, .int u4)] → W p l e (zt_R 4 90) s m ([.ref (zt_ad G 94), .int x1] : List Value).toArray below meth c H locs 0 0 (MQ below (zt_Ci G r σ) ([.ref (zt_ad G 94), .int x1] : List Value).toArray s 0 0 (zt_A G)) (F0 m 33 ls [])), ∀ (y0 : Int32) (y1 : Int32) (u1 : Int32) (u3 : Int32) (u4 : Int32) (H : Heap) (locs : List Loc) (ls : Array Slot), f_X9_names_93 σ rc7 rc33 y0 y1 u1 u3 u4 = some r → va_P (zt_D G) vwCl (zt_ww G σ) H → va_S (zt_A G) s.heap H locs → lv_has ls 6 [(0, .ref (zt_ad G 94)), (1, .int u1), (3, .int u3), (4, .int u4)] → W p l e (zt_R 4 90) s m ([.ref (zt_ad G 94), .int x1] : List Value).toArray below meth c H locs 0 0 (MQ below (zt_Ci G r σ) ([.ref (zt_ad G 94), .int x1] : List Value).toArray s 0 0 (zt_A G)) (F0 m 93 ls [.int y0, .int y1]) := by
    intro rc7 hrc7 rc33 hrc33 y0 y1 u1 u3 u4 H locs ls hf hP hS hl
    unfold f_X9_names_93 at hf
    refine lv_iadd hx hb dX9_names_93 ?_
    refine lv_istore_n (lv' := [(2, .int (y1 + y0)), (0, .ref (zt_ad G 94)), (1, .int u1), (3, .int u3), (4, .int u4)]) hx hb dX9_names_94 rfl hl (by decide) rfl (fun ls hl => ?_)
    refine lv_iinc (v := (u4 + 1)) (lv' := [(4, .int (u4 + 1)), (2, .int (y1 + y0)), (0, .ref (zt_ad G 94)), (1, .int u1), (3, .int u3)]) hx hb dX9_names_95 hl (k := 4) rfl rfl (by decide) rfl (fun ls hl => ?_)
    refine lv_goto (tgt := 33) hx hb dX9_names_98 (by decide) ?_
    exact hrc33 u1 (y1 + y0) u3 (u4 + 1) _ _ _ hf hP hS (lv_sub hl [2, 3, 1, 4, 0] rfl)
  have B92 : ∀ (rc7 : Int32 → Int32 → Int32 → Option (Int32)) (hrc7 : ∀ (u1 : Int32) (u2 : Int32) (u3 : Int32) (H : Heap) (locs : List Loc) (ls : Array Slot), rc7 u1 u2 u3 = some r → va_P (zt_D G) vwCl (zt_ww G σ) H → va_S (zt_A G) s.heap H locs → lv_has ls 6 [(0, .ref (zt_ad G 94)), (1, .int u1), (2, .int u2), (3, .int u3)] → W p l e (zt_R 4 90) s m ([.ref (zt_ad G 94), .int x1] : List Value).toArray below meth c H locs 0 0 (MQ below (zt_Ci G r σ) ([.ref (zt_ad G 94), .int x1] : List Value).toArray s 0 0 (zt_A G)) (F0 m 7 ls [])) (rc33 : Int32 → Int32 → Int32 → Int32 → Option (Int32)) (hrc33 : ∀ (u1 : Int32) (u2 : Int32) (u3 : Int32) (u4 : Int32) (H : Heap) (locs : List Loc) (ls : Array Slot), rc33 u1 u2 u3 u4 = some r → va_P (zt_D G) vwCl (zt_ww G σ) H → va_S (zt_A G) s.heap H locs → lv_has ls 6 [(0, .ref (zt_ad G 94)), (1, .int u1), (2, .int u2), (3, .int u3), (4, .int u4)] → W p l e (zt_R 4 90) s m ([.ref (zt_ad G 94), .int x1] : List Value).toArray below meth c H locs 0 0 (MQ below (zt_Ci G r σ) ([.ref (zt_ad G 94), .int x1] : List Value).toArray s 0 0 (zt_A G)) (F0 m 33 ls [])), ∀ (y0 : Int32) (u1 : Int32) (u3 : Int32) (u4 : Int32) (H : Heap) (locs : List Loc) (ls : Array Slot), f_X9_names_92 σ rc7 rc33 y0 u1 u3 u4 = some r → va_P (zt_D G) vwCl (zt_ww G σ) H → va_S (zt_A G) s.heap H locs → lv_has ls 6 [(0, .ref (zt_ad G 94)), (1, .int u1), (3, .int u3), (4, .int u4)] → W p l e (zt_R 4 90) s m ([.ref (zt_ad G 94), .int x1] : List Value).toArray below meth c H locs 0 0 (MQ below (zt_Ci G r σ) ([.ref (zt_ad G 94), .int x1] : List Value).toArray s 0 0 (zt_A G)) (F0 m 92 ls [.int y0]) := by
    intro rc7 hrc7 rc33 hrc33 y0 u1 u3 u4 H locs ls hf hP hS hl
    unfold f_X9_names_92 at hf
    refine lv_iconst (v := 0) hx hb dX9_names_92 (by decide) ?_
    exact B93 rc7 hrc7 rc33 hrc33 0 y0 u1 u3 u4 _ _ _ hf hP hS (lv_sub hl [0, 1, 2, 3] rfl)
  have B33 : ∀ (rc7 : Int32 → Int32 → Int32 → Option (Int32)) (hrc7 : ∀ (u1 : Int32) (u2 : Int32) (u3 : Int32) (H : Heap) (locs : List Loc) (ls : Array Slot), rc7 u1 u2 u3 = some r → va_P (zt_D G) vwCl (zt_ww G σ) H → va_S (zt_A G) s.heap H locs → lv_has ls 6 [(0, .ref (zt_ad G 94)), (1, .int u1), (2, .int u2), (3, .int u3)] → W p l e (zt_R 4 90) s m ([.ref (zt_ad G 94), .int x1] : List Value).toArray below meth c H locs 0 0 (MQ below (zt_Ci G r σ) ([.ref (zt_ad G 94), .int x1] : List Value).toArray s 0 0 (zt_A G)) (F0 m 7 ls [])), ∀ (n : Nat), ∀ (u1 : Int32) (u2 : Int32) (u3 : Int32) (u4 : Int32) (H : Heap) (locs : List Loc) (ls : Array Slot), f_X9_names_33 σ rc7 n u1 u2 u3 u4 = some r → va_P (zt_D G) vwCl (zt_ww G σ) H → va_S (zt_A G) s.heap H locs → lv_has ls 6 [(0, .ref (zt_ad G 94)), (1, .int u1), (2, .int u2), (3, .int u3), (4, .int u4)] → W p l e (zt_R 4 90) s m ([.ref (zt_ad G 94), .int x1] : List Value).toArray below meth c H locs 0 0 (MQ below (zt_Ci G r σ) ([.ref (zt_ad G 94), .int x1] : List Value).toArray s 0 0 (zt_A G)) (F0 m 33 ls []) := by
    intro rc7 hrc7 n
    induction n with
    | zero => intro u1 u2 u3 u4 H locs ls hf; exact nomatch hf
    | succ n hrc33 =>
      intro u1 u2 u3 u4 H locs ls hf hP hS hl
      generalize hrcg : f_X9_names_33 σ rc7 n = rc33 at hrc33
      have hf : f_X9_names_33b σ rc7 rc33 u1 u2 u3 u4 = some r := by rw [← hrcg]; exact hf
      unfold f_X9_names_33b at hf
      refine lv_iload hx hb dX9_names_33 (lv_at hl 4 rfl) ?_
      refine lv_aload_n hx hb dX9_names_35 rfl (lv_at hl 0 rfl) ?_
      refine va_get (D := zt_D G) (ci := 8) (v := .ref (zt_ad G 104)) (C := RX9) (T := TX9) (N := 37) hx hb hts inX9 hown hK hP 94 (zt_a8 (rfl : zt_kd 94 = 8)) rfl 13 (by decide) fl45 (fun _ h9 => h9) rfl dX9_names_36 ?_
      refine lv_iload_n hx hb dX9_names_39 rfl (lv_at hl 3 rfl) ?_
      obtain ⟨g6, hf⟩ := zt_gd_some hf
      refine va_iald hx hb hK hP 104 0 zt_a_104 rfl (zt_gI_in g6) dX9_names_40 ?_
      obtain ⟨v7, hvv7, hf⟩ := zt_bd_some hf
      refine va_calli (va_runS (As := [.int (σ 104 u3.toNatClampNeg)]) (rest := [.int u4]) ⟨hx, hb, hml, hown, hts⟩ (m_X9_base l G (σ := σ) hvv7) (va_cwS 1 hts gX9_names_X9_base rfl rfl rfl zh_X9_base ⟨Nat.le_of_ble_eq_true rfl, Nat.le_of_ble_eq_true rfl⟩) ⟨zt_blind, fun U hU hW => ⟨rfl, zt_go hE hP hS zt_id hU hW⟩⟩ rfl rfl hl.1 rfl (lv_room (Nat.le_of_ble_eq_true rfl)) dX9_names_41 ⟨Nat.zero_le _, Nat.zero_le _⟩) hS (fun _ _ h => h) (fun _ h => h) (fun r u t H locs ht hvm hw hB _ _ hS => ?_)
      rw [hw.1]; have hB : zt_B G u t := hB; rw [hw.2] at hB; have hP := zt_B.P hB ht
      obtain ⟨v9, hvv9, hf⟩ := zt_bd_some hf
      refine va_calli (va_runS (As := [.int v7]) (rest := [.int u4]) ⟨hx, hb, hml, hown, hts⟩ (m_X9_figures l G (σ := σ) hvv9) (va_cwS 1 hts gX9_names_X9_figures rfl rfl rfl zh_X9_figures ⟨Nat.le_of_ble_eq_true rfl, Nat.le_of_ble_eq_true rfl⟩) ⟨zt_blind, fun U hU hW => ⟨rfl, zt_go hE hP hS zt_id hU hW⟩⟩ rfl rfl hl.1 rfl (lv_room (Nat.le_of_ble_eq_true rfl)) dX9_names_44 ⟨Nat.zero_le _, Nat.zero_le _⟩) hS (fun _ _ h => h) (fun _ h => h) (fun r u t H locs ht hvm hw hB _ _ hS => ?_)
      rw [hw.1]; have hB : zt_B G u t := hB; rw [hw.2] at hB; have hP := zt_B.P hB ht
      refine lv_icmp_gt (tgt := 101) hx hb dX9_names_47 (by decide) (fun c11 => ?_) (fun c11 => ?_)
      · have hf := (if_pos c11).symm.trans hf
        refine lv_iinc (v := (u3 + 1)) (lv' := [(3, .int (u3 + 1)), (0, .ref (zt_ad G 94)), (1, .int u1), (2, .int u2), (4, .int u4)]) hx hb dX9_names_101 hl (k := 3) rfl rfl (by decide) rfl (fun ls hl => ?_)
        refine lv_goto (tgt := 7) hx hb dX9_names_104 (by decide) ?_
        exact hrc7 u1 u2 (u3 + 1) _ _ _ hf hP hS (lv_sub hl [1, 2, 3, 0] rfl)
      · have hf := (if_neg c11).symm.trans hf
        refine lv_aload_n hx hb dX9_names_50 rfl (lv_at hl 0 rfl) ?_
        refine va_get (D := zt_D G) (ci := 8) (v := .ref (zt_ad G 104)) (C := RX9) (T := TX9) (N := 37) hx hb hts inX9 hown hK hP 94 (zt_a8 (rfl : zt_kd 94 = 8)) rfl 13 (by decide) fl45 (fun _ h9 => h9) rfl dX9_names_51 ?_
        refine lv_iload_n hx hb dX9_names_54 rfl (lv_at hl 3 rfl) ?_
        obtain ⟨g12, hf⟩ := zt_gd_some hf
        refine va_iald hx hb hK hP 104 0 zt_a_104 rfl (zt_gI_in g12) dX9_names_55 ?_
        obtain ⟨v13, hvv13, hf⟩ := zt_bd_some hf
        refine va_calli (va_runS (As := [.int (σ 104 u3.toNatClampNeg)]) (rest := []) ⟨hx, hb, hml, hown, hts⟩ (m_X9_base l G (σ := σ) hvv13) (va_cwS 1 hts gX9_names_X9_base rfl rfl rfl zh_X9_base ⟨Nat.le_of_ble_eq_true rfl, Nat.le_of_ble_eq_true rfl⟩) ⟨zt_blind, fun U hU hW => ⟨rfl, zt_go hE hP hS zt_id hU hW⟩⟩ rfl rfl hl.1 rfl (lv_room (Nat.le_of_ble_eq_true rfl)) dX9_names_56 ⟨Nat.zero_le _, Nat.zero_le _⟩) hS (fun _ _ h => h) (fun _ h => h) (fun r u t H locs ht hvm hw hB _ _ hS => ?_)
        rw [hw.1]; have hB : zt_B G u t := hB; rw [hw.2] at hB; have hP := zt_B.P hB ht
        refine lv_iload hx hb dX9_names_59 (lv_at hl 4 rfl) ?_
        obtain ⟨v15, hvv15, hf⟩ := zt_bd_some hf
        refine va_calli (va_runS (As := [.int v13, .int u4]) (rest := []) ⟨hx, hb, hml, hown, hts⟩ (m_X9_head l G (σ := σ) hvv15) (va_cwS 2 hts gX9_names_X9_head rfl rfl rfl zh_X9_head ⟨Nat.le_of_ble_eq_true rfl, Nat.le_of_ble_eq_true rfl⟩) ⟨zt_blind, fun U hU hW => ⟨rfl, zt_go hE hP hS zt_id hU hW⟩⟩ rfl rfl hl.1 rfl (lv_room (Nat.le_of_ble_eq_true rfl)) dX9_names_61 ⟨Nat.zero_le _, Nat.zero_le _⟩) hS (fun _ _ h => h) (fun _ h => h) (fun r u t H locs ht hvm hw hB _ _ hS => ?_)
        rw [hw.1]; have hB : zt_B G u t := hB; rw [hw.2] at hB; have hP := zt_B.P hB ht
        refine lv_istore (lv' := [(5, .int v15), (0, .ref (zt_ad G 94)), (1, .int u1), (2, .int u2), (3, .int u3), (4, .int u4)]) hx hb dX9_names_64 hl (by decide) rfl (fun ls hl => ?_)
        refine lv_iload_n hx hb dX9_names_66 rfl (lv_at hl 3 rfl) ?_
        refine lv_aload_n hx hb dX9_names_67 rfl (lv_at hl 1 rfl) ?_
        refine lv_iload_n hx hb dX9_names_68 rfl (lv_at hl 2 rfl) ?_
        refine lv_iload hx hb dX9_names_69 (lv_at hl 0 rfl) ?_
        obtain ⟨v17, hvv17, hf⟩ := zt_bd_some hf
        refine va_calli (va_runV (As := [.int u1, .int v15]) (rest := [.int u2]) ⟨hx, hb, hml, hown, hts⟩ (m_X9_isOwn l G (σ := σ) hvv17) (cwV 2 hts gX9_names_X9_isOwn rfl rfl rfl zh_X9_isOwn ⟨Nat.le_of_ble_eq_true rfl, Nat.le_of_ble_eq_true rfl⟩) ⟨zt_blind, va_recv hK hP (ci := 8) (q0 := 94) rfl (zt_a8 (rfl : zt_kd 94 = 8)), fun U hU hW => ⟨rfl, zt_go hE hP hS zt_id hU hW⟩⟩ rfl rfl hl.1 rfl (lv_room (Nat.le_of_ble_eq_true rfl)) dX9_names_71 ⟨Nat.zero_le _, Nat.zero_le _⟩) hS (fun _ _ h => h) (fun _ h => h) (fun r u t H locs ht hvm hw hB _ _ hS => ?_)
        rw [hw.1]; have hB : zt_B G u t := hB; rw [hw.2] at hB; have hP := zt_B.P hB ht
        refine lv_if_eq (tgt := 92) hx hb dX9_names_74 (by decide) (fun c19 => ?_) (fun c19 => ?_)
        · have hf := (if_pos c19).symm.trans hf
          exact B92 rc7 hrc7 rc33 hrc33 u2 u1 u3 u4 _ _ _ hf hP hS (lv_sub hl [1, 2, 4, 5] rfl)
        · have hf := (if_neg c19).symm.trans hf
          refine lv_aload_n hx hb dX9_names_77 rfl (lv_at hl 1 rfl) ?_
          refine lv_iload_n hx hb dX9_names_78 rfl (lv_at hl 2 rfl) ?_
          refine lv_iload_n hx hb dX9_names_79 rfl (lv_at hl 4 rfl) ?_
          refine lv_iload hx hb dX9_names_80 (lv_at hl 0 rfl) ?_
          obtain ⟨v20, hvv20, hf⟩ := zt_bd_some hf
          refine va_calli (va_runV (As := [.int u1, .int u3, .int v15]) (rest := [.int u2]) ⟨hx, hb, hml, hown, hts⟩ (m_X9_wasAhead l G (σ := σ) hvv20) (cwV 3 hts gX9_names_X9_wasAhead rfl rfl rfl zh_X9_wasAhead ⟨Nat.le_of_ble_eq_true rfl, Nat.le_of_ble_eq_true rfl⟩) ⟨zt_blind, va_recv hK hP (ci := 8) (q0 := 94) rfl (zt_a8 (rfl : zt_kd 94 = 8)), fun U hU hW => ⟨rfl, zt_go hE hP hS zt_id hU hW⟩⟩ rfl rfl hl.1 rfl (lv_room (Nat.le_of_ble_eq_true rfl)) dX9_names_82 ⟨Nat.zero_le _, Nat.zero_le _⟩) hS (fun _ _ h => h) (fun _ h => h) (fun r u t H locs ht hvm hw hB _ _ hS => ?_)
          rw [hw.1]; have hB : zt_B G u t := hB; rw [hw.2] at hB; have hP := zt_B.P hB ht
          refine lv_if_ne (tgt := 92) hx hb dX9_names_85 (by decide) (fun c22 => ?_) (fun c22 => ?_)
          · have hf := (if_neg c22).symm.trans hf
            exact B92 rc7 hrc7 rc33 hrc33 u2 u1 u3 u4 _ _ _ hf hP hS (lv_sub hl [1, 2, 4, 5] rfl)
          · have hf := (if_pos c22).symm.trans hf
            refine lv_iconst (v := 1) hx hb dX9_names_88 (by decide) ?_
            refine lv_goto (tgt := 93) hx hb dX9_names_89 (by decide) ?_
            exact B93 rc7 hrc7 rc33 hrc33 1 u2 u1 u3 u4 _ _ _ hf hP hS (lv_sub hl [1, 2, 4, 5] rfl)
  have B7 : ∀ (n : Nat), ∀ (u1 : Int32) (u2 : Int32) (u3 : Int32) (H : Heap) (locs : List Loc) (ls : Array Slot), f_X9_names_7 σ n u1 u2 u3 = some r → va_P (zt_D G) vwCl (zt_ww G σ) H → va_S (zt_A G) s.heap H locs → lv_has ls 6 [(0, .ref (zt_ad G 94)), (1, .int u1), (2, .int u2), (3, .int u3)] → W p l e (zt_R 4 90) s m ([.ref (zt_ad G 94), .int x1] : List Value).toArray below meth c H locs 0 0 (MQ below (zt_Ci G r σ) ([.ref (zt_ad G 94), .int x1] : List Value).toArray s 0 0 (zt_A G)) (F0 m 7 ls []) := by
    intro n
    induction n with
    | zero => intro u1 u2 u3 H locs ls hf; exact nomatch hf
    | succ n hrc7 =>
      intro u1 u2 u3 H locs ls hf hP hS hl
      generalize hrcg : f_X9_names_7 σ n = rc7 at hrc7
      have hf : f_X9_names_7b σ rc7 u1 u2 u3 = some r := by rw [← hrcg]; exact hf
      unfold f_X9_names_7b at hf
      refine lv_iload_n hx hb dX9_names_7 rfl (lv_at hl 3 rfl) ?_
      refine lv_bipush (v := 32) hx hb dX9_names_8 (by decide +kernel) ?_
      refine lv_iload_n hx hb dX9_names_10 rfl (lv_at hl 1 rfl) ?_
      refine lv_imul hx hb dX9_names_11 ?_
      refine lv_aload_n hx hb dX9_names_12 rfl (lv_at hl 0 rfl) ?_
      refine va_get (D := zt_D G) (ci := 8) (v := .ref (zt_ad G 103)) (C := RX9) (T := TX9) (N := 37) hx hb hts inX9 hown hK hP 94 (zt_a8 (rfl : zt_kd 94 = 8)) rfl 12 (by decide) fl42 (fun _ h9 => h9) rfl dX9_names_13 ?_
      refine lv_iload_n hx hb dX9_names_16 rfl (lv_at hl 1 rfl) ?_
      obtain ⟨g1, hf⟩ := zt_gd_some hf
      refine va_iald hx hb hK hP 103 0 zt_a_103 rfl (zt_gI_in g1) dX9_names_17 ?_
      refine lv_iadd hx hb dX9_names_18 ?_
      refine lv_icmp_ge (tgt := 107) hx hb dX9_names_19 (by decide) (fun c2 => ?_) (fun c2 => ?_)
      · have hf := (if_pos c2).symm.trans hf
        refine lv_iload_n hx hb dX9_names_107 rfl (lv_at hl 2 rfl) ?_
        exact W.iret hx hb hr (fun t ht hW => ⟨⟨_, _, rfl, ⟨Option.some.inj hf, rfl⟩, zt_go hE hP hS zt_id ht hW⟩, hS.F ht⟩) hS.2.2 dX9_names_108
      · have hf := (if_neg c2).symm.trans hf
        refine lv_aload_n hx hb dX9_names_22 rfl (lv_at hl 0 rfl) ?_
        refine va_get (D := zt_D G) (ci := 8) (v := .ref (zt_ad G 95)) (C := RX9) (T := TX9) (N := 37) hx hb hts inX9 hown hK hP 94 (zt_a8 (rfl : zt_kd 94 = 8)) rfl 3 (by decide) fl13 (fun _ h9 => h9) rfl dX9_names_23 ?_
        refine lv_iload_n hx hb dX9_names_26 rfl (lv_at hl 1 rfl) ?_
        obtain ⟨g3, hf⟩ := zt_gd_some hf
        refine va_iald hx hb hK hP 95 0 zt_a_95 rfl (zt_gI_in g3) dX9_names_27 ?_
        obtain ⟨v4, hvv4, hf⟩ := zt_bd_some hf
        refine va_calli (va_runS (As := [.int (σ 95 u1.toNatClampNeg)]) (rest := []) ⟨hx, hb, hml, hown, hts⟩ (m_X9_figures l G (σ := σ) hvv4) (va_cwS 1 hts gX9_names_X9_figures rfl rfl rfl zh_X9_figures ⟨Nat.le_of_ble_eq_true rfl, Nat.le_of_ble_eq_true rfl⟩) ⟨zt_blind, fun U hU hW => ⟨rfl, zt_go hE hP hS zt_id hU hW⟩⟩ rfl rfl hl.1 rfl (lv_room (Nat.le_of_ble_eq_true rfl)) dX9_names_28 ⟨Nat.zero_le _, Nat.zero_le _⟩) hS (fun _ _ h => h) (fun _ h => h) (fun r u t H locs ht hvm hw hB _ _ hS => ?_)
        rw [hw.1]; have hB : zt_B G u t := hB; rw [hw.2] at hB; have hP := zt_B.P hB ht
        refine lv_istore (lv' := [(4, .int v4), (0, .ref (zt_ad G 94)), (1, .int u1), (2, .int u2), (3, .int u3)]) hx hb dX9_names_31 hl (by decide) rfl (fun ls hl => ?_)
        exact B33 rc7 hrc7 zt_FU u1 u2 u3 v4 _ _ _ hf hP hS (lv_sub hl [1, 2, 3, 4, 0] rfl)
  unfold f_X9_names at hf
  refine lv_iconst (v := 0) hx hb dX9_names_0 (by decide) ?_
  refine lv_istore_n (lv' := [(2, .int 0), (0, .ref (zt_ad G 94)), (1, .int x1)]) hx hb dX9_names_1 rfl hl (by decide) rfl (fun ls hl => ?_)
  refine lv_bipush (v := 32) hx hb dX9_names_2 (by decide +kernel) ?_
  refine lv_iload_n hx hb dX9_names_4 rfl (lv_at hl 2 rfl) ?_
  refine lv_imul hx hb dX9_names_5 ?_
  refine lv_istore_n (lv' := [(3, .int (32 * x1)), (2, .int 0), (0, .ref (zt_ad G 94)), (1, .int x1)]) hx hb dX9_names_6 rfl hl (by decide) rfl (fun ls hl => ?_)
  exact B7 zt_FU x1 0 (32 * x1) _ _ _ hf hP hS (lv_sub hl [2, 3, 1, 0] rfl)

theorem zh_X9_zoneHas : yX9_zoneHas.cls = RX9 ∧ yX9_zoneHas.cls ≠ "java/lang/invoke/MethodHandle" ∧ yX9_zoneHas.cls ≠ "java/lang/invoke/VarHandle" ∧ (parseMethodDescriptor yX9_zoneHas.desc).map (fun d => d.parameters.length) = some 2 := by decide +kernel
set_option maxHeartbeats 4000000 in
set_option maxRecDepth 100000 in
theorem m_X9_zoneHas (l : Launch) (G : zt_G) {σ : zt_St} {x1 : Int32} {x2 : Int32} {r : Int32} {σ1 : zt_St} (hf : f_X9_zoneHas σ x1 x2 = some (r, σ1)) : zt_Mi l G yX9_zoneHas wsX9_zoneHas 5 115 [.ref (zt_ad G 94), .int x1, .int x2] σ r σ1 := by
  refine Met.ofW (cc := cX9_zoneHas) (maxL := 3) (ret := (some .int)) (by decide) rfl ?_
  intro p e s m args below meth c s₁ B hml hv
  obtain ⟨rfl, hBB⟩ := hv
  have hE := zt_B.env hBB; have hK := hE.2.1; have hP := hBB.2.1
  have hx := B.exec; have hb := B.bytes; have hr := B.returns; have hts := atoms_spec (ws := wsX9_zoneHas) B.pre
  have hown : s.vm.findClass RX9 = some m.cls := findClass_of_methodNamed B.named
  have hlocks := B.notSynchronized
  have hS : va_S (zt_A G) s.heap s.heap [] := va_S.rf
  have hl := lv_entry ([.ref (zt_ad G 94), .int x1, .int x2]) (n := 3) (Nat.le_of_ble_eq_true rfl)
  rw [lg_entry_eq]
  generalize (lg_sl ([.ref (zt_ad G 94), .int x1, .int x2]) ++ List.replicate (3 - (lg_sl ([.ref (zt_ad G 94), .int x1, .int x2])).length) Slot.unset).toArray = ls at hl ⊢
  have hl : lv_has ls 3 [(0, .ref (zt_ad G 94)), (1, .int x1), (2, .int x2)] := hl
  show W p l e (zt_R 5 115) s m ([.ref (zt_ad G 94), .int x1, .int x2] : List Value).toArray below meth c s.heap [] 0 0 (MQ below (zt_Ci G r σ1) ([.ref (zt_ad G 94), .int x1, .int x2] : List Value).toArray s 0 0 (zt_A G)) (F0 m 0 ls [])
  have fl13 := hts (.fieldLink RX9 13 "ZoneTreeModel" "apex" "[I") (List.mem_cons_of_mem _ (List.mem_append_left _ (List.mem_append_left _ (List.mem_of_getElem? (i := 0) rfl))))
  have fl20 := hts (.fieldLink RX9 20 "ZoneTreeModel" "serial" "[I") (List.mem_cons_of_mem _ (List.mem_append_left _ (List.mem_append_left _ (List.mem_of_getElem? (i := 1) rfl))))
  have fl23 := hts (.fieldLink RX9 23 "ZoneTreeModel" "copied" "[I") (List.mem_cons_of_mem _ (List.mem_append_left _ (List.mem_append_left _ (List.mem_of_getElem? (i := 3) rfl))))
  have fl42 := hts (.fieldLink RX9 42 "ZoneTreeModel" "many" "[I") (List.mem_cons_of_mem _ (List.mem_append_left _ (List.mem_append_left _ (List.mem_of_getElem? (i := 2) rfl))))
  have inX9 : ∀ w ∈ wsX90, w ∈ wsX9_zoneHas := fun w h => (List.mem_cons_of_mem _ (List.mem_append_right _ h))
  unfold f_X9_zoneHas at hf
  refine lv_aload_n hx hb dX9_zoneHas_0 rfl (lv_at hl 0 rfl) ?_
  refine lv_aload_n hx hb dX9_zoneHas_1 rfl (lv_at hl 0 rfl) ?_
  refine lv_iload_n hx hb dX9_zoneHas_2 rfl (lv_at hl 1 rfl) ?_
  obtain ⟨v1, hvv1, hf⟩ := zt_bd_some hf
  refine va_calli (va_runV (As := [.int x1]) (rest := [.ref (zt_ad G 94)]) ⟨hx, hb, hml, hown, hts⟩ (m_X9_isZone l G (σ := σ) hvv1) (cwV 1 hts gX9_zoneHas_X9_isZone rfl rfl rfl zh_X9_isZone ⟨Nat.le_of_ble_eq_true rfl, Nat.le_of_ble_eq_true rfl⟩) ⟨zt_blind, va_recv hK hP (ci := 8) (q0 := 94) rfl (zt_a8 (rfl : zt_kd 94 = 8)), fun U hU hW => ⟨rfl, zt_go hE hP hS zt_id hU hW⟩⟩ rfl rfl hl.1 rfl (lv_room (Nat.le_of_ble_eq_true rfl)) dX9_zoneHas_3 ⟨Nat.zero_le _, Nat.zero_le _⟩) hS (fun _ _ h => h) (fun _ h => h) (fun r u t H locs ht hvm hw hB _ _ hS => ?_)
  rw [hw.1]; have hB : zt_B G u t := hB; rw [hw.2] at hB; have hP := zt_B.P hB ht
  refine lv_iload_n hx hb dX9_zoneHas_6 rfl (lv_at hl 2 rfl) ?_
  refine lv_iconst (v := 0) hx hb dX9_zoneHas_7 (by decide) ?_
  refine lv_iconst (v := 4) hx hb dX9_zoneHas_8 (by decide) ?_
  obtain ⟨v3, hvv3, hf⟩ := zt_bd_some hf
  refine va_calli (va_runS (As := [.int x2, .int 0, .int 4]) (rest := [.int v1, .ref (zt_ad G 94)]) ⟨hx, hb, hml, hown, hts⟩ (m_X9_in l G (σ := σ) hvv3) (va_cwS 3 hts gX9_zoneHas_X9_in rfl rfl rfl zh_X9_in ⟨Nat.le_of_ble_eq_true rfl, Nat.le_of_ble_eq_true rfl⟩) ⟨zt_blind, fun U hU hW => ⟨rfl, zt_go hE hP hS zt_id hU hW⟩⟩ rfl rfl hl.1 rfl (lv_room (Nat.le_of_ble_eq_true rfl)) dX9_zoneHas_9 ⟨Nat.zero_le _, Nat.zero_le _⟩) hS (fun _ _ h => h) (fun _ h => h) (fun r u t H locs ht hvm hw hB _ _ hS => ?_)
  rw [hw.1]; have hB : zt_B G u t := hB; rw [hw.2] at hB; have hP := zt_B.P hB ht
  obtain ⟨⟨v5a, σ6a⟩, hvv5, hf⟩ := zt_bd_some hf
  obtain ⟨v5, hv5, hf⟩ := zt_lt_some hf; obtain ⟨σ6, hσ6, hf⟩ := zt_lt_some hf; rw [show (v5a, σ6a) = (v5, σ6) from by rw [hv5, hσ6]] at hvv5
  refine va_calli (va_runV (As := [.int v1, .int v3]) (rest := []) ⟨hx, hb, hml, hown, hts⟩ (m_X9_asked_ l G (σ := σ) hvv5) (cwV 2 hts gX9_zoneHas_X9_asked_ rfl rfl rfl zh_X9_asked_ ⟨Nat.le_of_ble_eq_true rfl, Nat.le_of_ble_eq_true rfl⟩) ⟨zt_blind, va_recv hK hP (ci := 8) (q0 := 94) rfl (zt_a8 (rfl : zt_kd 94 = 8)), fun U hU hW => ⟨rfl, zt_go hE hP hS zt_id hU hW⟩⟩ rfl rfl hl.1 rfl (lv_room (Nat.le_of_ble_eq_true rfl)) dX9_zoneHas_12 ⟨Nat.zero_le _, Nat.zero_le _⟩) hS (fun _ _ h => h) (fun _ h => h) (fun r u t H locs ht hvm hw hB _ _ hS => ?_)
  rw [hw.1]; have hB : zt_B G u t := hB; rw [hw.2] at hB; have hP := zt_B.P hB ht
  refine lv_if_ne (tgt := 20) hx hb dX9_zoneHas_15 (by decide) (fun c8 => ?_) (fun c8 => ?_)
  · have hf := (if_neg c8).symm.trans hf
    refine lv_iload_n hx hb dX9_zoneHas_20 rfl (lv_at hl 2 rfl) ?_
    refine lv_if_ne (tgt := 33) hx hb dX9_zoneHas_21 (by decide) (fun c9 => ?_) (fun c9 => ?_)
    · have hf := (if_neg c9).symm.trans hf
      refine lv_iload_n hx hb dX9_zoneHas_33 rfl (lv_at hl 2 rfl) ?_
      refine lv_iconst (v := 1) hx hb dX9_zoneHas_34 (by decide) ?_
      refine lv_icmp_ne (tgt := 47) hx hb dX9_zoneHas_35 (by decide) (fun c10 => ?_) (fun c10 => ?_)
      · have hf := (if_neg c10).symm.trans hf
        refine lv_iload_n hx hb dX9_zoneHas_47 rfl (lv_at hl 2 rfl) ?_
        refine lv_iconst (v := 2) hx hb dX9_zoneHas_48 (by decide) ?_
        refine lv_icmp_ne (tgt := 61) hx hb dX9_zoneHas_49 (by decide) (fun c11 => ?_) (fun c11 => ?_)
        · have hf := (if_neg c11).symm.trans hf
          refine lv_iload_n hx hb dX9_zoneHas_61 rfl (lv_at hl 2 rfl) ?_
          refine lv_iconst (v := 3) hx hb dX9_zoneHas_62 (by decide) ?_
          refine lv_icmp_ne (tgt := 75) hx hb dX9_zoneHas_63 (by decide) (fun c12 => ?_) (fun c12 => ?_)
          · have hf := (if_neg c12).symm.trans hf
            refine lv_aload_n hx hb dX9_zoneHas_75 rfl (lv_at hl 0 rfl) ?_
            refine lv_iload_n hx hb dX9_zoneHas_76 rfl (lv_at hl 1 rfl) ?_
            obtain ⟨v13, hvv13, hf⟩ := zt_bd_some hf
            refine va_calli (va_runV (As := [.int x1]) (rest := []) ⟨hx, hb, hml, hown, hts⟩ (m_X9_names l G (σ := σ6) hvv13) (cwV 1 hts gX9_zoneHas_X9_names rfl rfl rfl zh_X9_names ⟨Nat.le_of_ble_eq_true rfl, Nat.le_of_ble_eq_true rfl⟩) ⟨zt_blind, va_recv hK hP (ci := 8) (q0 := 94) rfl (zt_a8 (rfl : zt_kd 94 = 8)), fun U hU hW => ⟨rfl, zt_go hE hP hS zt_id hU hW⟩⟩ rfl rfl hl.1 rfl (lv_room (Nat.le_of_ble_eq_true rfl)) dX9_zoneHas_77 ⟨Nat.zero_le _, Nat.zero_le _⟩) hS (fun _ _ h => h) (fun _ h => h) (fun r u t H locs ht hvm hw hB _ _ hS => ?_)
            rw [hw.1]; have hB : zt_B G u t := hB; rw [hw.2] at hB; have hP := zt_B.P hB ht
            exact W.iret hx hb hr (fun t ht hW => ⟨⟨_, _, rfl, (Prod.mk.inj (Option.some.inj hf)), zt_go hE hP hS zt_id ht hW⟩, hS.F ht⟩) hS.2.2 dX9_zoneHas_80
          · have hf := (if_pos c12).symm.trans hf
            refine lv_aload_n hx hb dX9_zoneHas_66 rfl (lv_at hl 0 rfl) ?_
            refine va_get (D := zt_D G) (ci := 8) (v := .ref (zt_ad G 98)) (C := RX9) (T := TX9) (N := 37) hx hb hts inX9 hown hK hP 94 (zt_a8 (rfl : zt_kd 94 = 8)) rfl 6 (by decide) fl23 (fun _ h9 => h9) rfl dX9_zoneHas_67 ?_
            refine lv_iload_n hx hb dX9_zoneHas_70 rfl (lv_at hl 1 rfl) ?_
            obtain ⟨g15, hf⟩ := zt_gd_some hf
            refine va_iald hx hb hK hP 98 0 zt_a_98 rfl (zt_gI_in g15) dX9_zoneHas_71 ?_
            refine lv_goto (tgt := 80) hx hb dX9_zoneHas_72 (by decide) ?_
            exact W.iret hx hb hr (fun t ht hW => ⟨⟨_, _, rfl, (Prod.mk.inj (Option.some.inj hf)), zt_go hE hP hS zt_id ht hW⟩, hS.F ht⟩) hS.2.2 dX9_zoneHas_80
        · have hf := (if_pos c11).symm.trans hf
          refine lv_aload_n hx hb dX9_zoneHas_52 rfl (lv_at hl 0 rfl) ?_
          refine va_get (D := zt_D G) (ci := 8) (v := .ref (zt_ad G 103)) (C := RX9) (T := TX9) (N := 37) hx hb hts inX9 hown hK hP 94 (zt_a8 (rfl : zt_kd 94 = 8)) rfl 12 (by decide) fl42 (fun _ h9 => h9) rfl dX9_zoneHas_53 ?_
          refine lv_iload_n hx hb dX9_zoneHas_56 rfl (lv_at hl 1 rfl) ?_
          obtain ⟨g16, hf⟩ := zt_gd_some hf
          refine va_iald hx hb hK hP 103 0 zt_a_103 rfl (zt_gI_in g16) dX9_zoneHas_57 ?_
          refine lv_goto (tgt := 80) hx hb dX9_zoneHas_58 (by decide) ?_
          exact W.iret hx hb hr (fun t ht hW => ⟨⟨_, _, rfl, (Prod.mk.inj (Option.some.inj hf)), zt_go hE hP hS zt_id ht hW⟩, hS.F ht⟩) hS.2.2 dX9_zoneHas_80
      · have hf := (if_pos c10).symm.trans hf
        refine lv_aload_n hx hb dX9_zoneHas_38 rfl (lv_at hl 0 rfl) ?_
        refine va_get (D := zt_D G) (ci := 8) (v := .ref (zt_ad G 97)) (C := RX9) (T := TX9) (N := 37) hx hb hts inX9 hown hK hP 94 (zt_a8 (rfl : zt_kd 94 = 8)) rfl 5 (by decide) fl20 (fun _ h9 => h9) rfl dX9_zoneHas_39 ?_
        refine lv_iload_n hx hb dX9_zoneHas_42 rfl (lv_at hl 1 rfl) ?_
        obtain ⟨g17, hf⟩ := zt_gd_some hf
        refine va_iald hx hb hK hP 97 0 zt_a_97 rfl (zt_gI_in g17) dX9_zoneHas_43 ?_
        refine lv_goto (tgt := 80) hx hb dX9_zoneHas_44 (by decide) ?_
        exact W.iret hx hb hr (fun t ht hW => ⟨⟨_, _, rfl, (Prod.mk.inj (Option.some.inj hf)), zt_go hE hP hS zt_id ht hW⟩, hS.F ht⟩) hS.2.2 dX9_zoneHas_80
    · have hf := (if_pos c9).symm.trans hf
      refine lv_aload_n hx hb dX9_zoneHas_24 rfl (lv_at hl 0 rfl) ?_
      refine va_get (D := zt_D G) (ci := 8) (v := .ref (zt_ad G 95)) (C := RX9) (T := TX9) (N := 37) hx hb hts inX9 hown hK hP 94 (zt_a8 (rfl : zt_kd 94 = 8)) rfl 3 (by decide) fl13 (fun _ h9 => h9) rfl dX9_zoneHas_25 ?_
      refine lv_iload_n hx hb dX9_zoneHas_28 rfl (lv_at hl 1 rfl) ?_
      obtain ⟨g18, hf⟩ := zt_gd_some hf
      refine va_iald hx hb hK hP 95 0 zt_a_95 rfl (zt_gI_in g18) dX9_zoneHas_29 ?_
      refine lv_goto (tgt := 80) hx hb dX9_zoneHas_30 (by decide) ?_
      exact W.iret hx hb hr (fun t ht hW => ⟨⟨_, _, rfl, (Prod.mk.inj (Option.some.inj hf)), zt_go hE hP hS zt_id ht hW⟩, hS.F ht⟩) hS.2.2 dX9_zoneHas_80
  · have hf := (if_pos c8).symm.trans hf
    refine lv_iconst (v := 0) hx hb dX9_zoneHas_18 (by decide) ?_
    exact W.iret hx hb hr (fun t ht hW => ⟨⟨_, _, rfl, (Prod.mk.inj (Option.some.inj hf)), zt_go hE hP hS zt_id ht hW⟩, hS.F ht⟩) hS.2.2 dX9_zoneHas_19

theorem zh_X9_record : yX9_record.cls = RX9 ∧ yX9_record.cls ≠ "java/lang/invoke/MethodHandle" ∧ yX9_record.cls ≠ "java/lang/invoke/VarHandle" ∧ (parseMethodDescriptor yX9_record.desc).map (fun d => d.parameters.length) = some 3 := by decide +kernel
set_option maxHeartbeats 4000000 in
set_option maxRecDepth 100000 in
theorem m_X9_record (l : Launch) (G : zt_G) {σ : zt_St} {x1 : Int32} {x2 : Int32} {x3 : Int32} {r : Int32} {σ1 : zt_St} (hf : f_X9_record σ x1 x2 x3 = some (r, σ1)) : zt_Mi l G yX9_record wsX9_record 4 84 [.ref (zt_ad G 94), .int x1, .int x2, .int x3] σ r σ1 := by
  refine Met.ofW (cc := cX9_record) (maxL := 5) (ret := (some .int)) (by decide) rfl ?_
  intro p e s m args below meth c s₁ B hml hv
  obtain ⟨rfl, hBB⟩ := hv
  have hE := zt_B.env hBB; have hK := hE.2.1; have hP := hBB.2.1
  have hx := B.exec; have hb := B.bytes; have hr := B.returns; have hts := atoms_spec (ws := wsX9_record) B.pre
  have hown : s.vm.findClass RX9 = some m.cls := findClass_of_methodNamed B.named
  have hlocks := B.notSynchronized
  have hS : va_S (zt_A G) s.heap s.heap [] := va_S.rf
  have hl := lv_entry ([.ref (zt_ad G 94), .int x1, .int x2, .int x3]) (n := 5) (Nat.le_of_ble_eq_true rfl)
  rw [lg_entry_eq]
  generalize (lg_sl ([.ref (zt_ad G 94), .int x1, .int x2, .int x3]) ++ List.replicate (5 - (lg_sl ([.ref (zt_ad G 94), .int x1, .int x2, .int x3])).length) Slot.unset).toArray = ls at hl ⊢
  have hl : lv_has ls 5 [(0, .ref (zt_ad G 94)), (1, .int x1), (2, .int x2), (3, .int x3)] := hl
  show W p l e (zt_R 4 84) s m ([.ref (zt_ad G 94), .int x1, .int x2, .int x3] : List Value).toArray below meth c s.heap [] 0 0 (MQ below (zt_Ci G r σ1) ([.ref (zt_ad G 94), .int x1, .int x2, .int x3] : List Value).toArray s 0 0 (zt_A G)) (F0 m 0 ls [])
  have fl51 := hts (.fieldLink RX9 51 "ZoneTreeModel" "number" "[I") (List.mem_cons_of_mem _ (List.mem_append_left _ (List.mem_append_left _ (List.mem_of_getElem? (i := 0) rfl))))
  have inX9 : ∀ w ∈ wsX90, w ∈ wsX9_record := fun w h => (List.mem_cons_of_mem _ (List.mem_append_right _ h))
  have B27 : ∀ (σ : zt_St) (y0 : Int32) (y1 : Int32) (u1 : Int32) (u2 : Int32) (u3 : Int32) (H : Heap) (locs : List Loc) (ls : Array Slot), f_X9_record_27 σ y0 y1 u1 u2 u3 = some (r, σ1) → va_P (zt_D G) vwCl (zt_ww G σ) H → va_S (zt_A G) s.heap H locs → lv_has ls 5 [(0, .ref (zt_ad G 94)), (1, .int u1), (2, .int u2), (3, .int u3)] → W p l e (zt_R 4 84) s m ([.ref (zt_ad G 94), .int x1, .int x2, .int x3] : List Value).toArray below meth c H locs 0 0 (MQ below (zt_Ci G r σ1) ([.ref (zt_ad G 94), .int x1, .int x2, .int x3] : List Value).toArray s 0 0 (zt_A G)) (F0 m 27 ls [.int y0, .int y1, .ref (zt_ad G 94)]) := by
    intro σ y0 y1 u1 u2 u3 H locs ls hf hP hS hl
    unfold f_X9_record_27 at hf
    obtain ⟨⟨v9a, σ10a⟩, hvv9, hf⟩ := zt_bd_some hf
    obtain ⟨v9, hv9, hf⟩ := zt_lt_some hf; obtain ⟨σ10, hσ10, hf⟩ := zt_lt_some hf; rw [show (v9a, σ10a) = (v9, σ10) from by rw [hv9, hσ10]] at hvv9
    refine va_calli (va_runV (As := [.int y1, .int y0]) (rest := []) ⟨hx, hb, hml, hown, hts⟩ (m_X9_asked_ l G (σ := σ) hvv9) (cwV 2 hts gX9_record_X9_asked_ rfl rfl rfl zh_X9_asked_ ⟨Nat.le_of_ble_eq_true rfl, Nat.le_of_ble_eq_true rfl⟩) ⟨zt_blind, va_recv hK hP (ci := 8) (q0 := 94) rfl (zt_a8 (rfl : zt_kd 94 = 8)), fun U hU hW => ⟨rfl, zt_go hE hP hS zt_id hU hW⟩⟩ rfl rfl hl.1 rfl (lv_room (Nat.le_of_ble_eq_true rfl)) dX9_record_27 ⟨Nat.zero_le _, Nat.zero_le _⟩) hS (fun _ _ h => h) (fun _ h => h) (fun r u t H locs ht hvm hw hB _ _ hS => ?_)
    rw [hw.1]; have hB : zt_B G u t := hB; rw [hw.2] at hB; have hP := zt_B.P hB ht
    refine lv_if_ne (tgt := 35) hx hb dX9_record_30 (by decide) (fun c12 => ?_) (fun c12 => ?_)
    · have hf := (if_neg c12).symm.trans hf
      refine lv_aload_n hx hb dX9_record_35 rfl (lv_at hl 0 rfl) ?_
      refine lv_iload_n hx hb dX9_record_36 rfl (lv_at hl 1 rfl) ?_
      refine lv_iload_n hx hb dX9_record_37 rfl (lv_at hl 2 rfl) ?_
      refine lv_iload_n hx hb dX9_record_38 rfl (lv_at hl 3 rfl) ?_
      obtain ⟨v13, hvv13, hf⟩ := zt_bd_some hf
      refine va_calli (va_runV (As := [.int u1, .int u2, .int u3]) (rest := []) ⟨hx, hb, hml, hown, hts⟩ (m_X9_find l G (σ := σ10) hvv13) (cwV 3 hts gX9_record_X9_find rfl rfl rfl zh_X9_find ⟨Nat.le_of_ble_eq_true rfl, Nat.le_of_ble_eq_true rfl⟩) ⟨zt_blind, va_recv hK hP (ci := 8) (q0 := 94) rfl (zt_a8 (rfl : zt_kd 94 = 8)), fun U hU hW => ⟨rfl, zt_go hE hP hS zt_id hU hW⟩⟩ rfl rfl hl.1 rfl (lv_room (Nat.le_of_ble_eq_true rfl)) dX9_record_39 ⟨Nat.zero_le _, Nat.zero_le _⟩) hS (fun _ _ h => h) (fun _ h => h) (fun r u t H locs ht hvm hw hB _ _ hS => ?_)
      rw [hw.1]; have hB : zt_B G u t := hB; rw [hw.2] at hB; have hP := zt_B.P hB ht
      refine lv_istore (lv' := [(4, .int v13), (0, .ref (zt_ad G 94)), (1, .int u1), (2, .int u2), (3, .int u3)]) hx hb dX9_record_42 hl (by decide) rfl (fun ls hl => ?_)
      refine lv_iload hx hb dX9_record_44 (lv_at hl 0 rfl) ?_
      refine lv_iconst (v := (-1)) hx hb dX9_record_46 (by decide) ?_
      refine lv_icmp_ne (tgt := 54) hx hb dX9_record_47 (by decide) (fun c15 => ?_) (fun c15 => ?_)
      · have hf := (if_neg c15).symm.trans hf
        refine lv_aload_n hx hb dX9_record_54 rfl (lv_at hl 1 rfl) ?_
        refine va_get (D := zt_D G) (ci := 8) (v := .ref (zt_ad G 106)) (C := RX9) (T := TX9) (N := 37) hx hb hts inX9 hown hK hP 94 (zt_a8 (rfl : zt_kd 94 = 8)) rfl 15 (by decide) fl51 (fun _ h9 => h9) rfl dX9_record_55 ?_
        refine lv_iload hx hb dX9_record_58 (lv_at hl 0 rfl) ?_
        obtain ⟨g16, hf⟩ := zt_gd_some hf
        refine va_iald hx hb hK hP 106 0 zt_a_106 rfl (zt_gI_in g16) dX9_record_60 ?_
        exact W.iret hx hb hr (fun t ht hW => ⟨⟨_, _, rfl, (Prod.mk.inj (Option.some.inj hf)), zt_go hE hP hS zt_id ht hW⟩, hS.F ht⟩) hS.2.2 dX9_record_61
      · have hf := (if_pos c15).symm.trans hf
        refine lv_iconst (v := (-1)) hx hb dX9_record_50 (by decide) ?_
        refine lv_goto (tgt := 61) hx hb dX9_record_51 (by decide) ?_
        exact W.iret hx hb hr (fun t ht hW => ⟨⟨_, _, rfl, (Prod.mk.inj (Option.some.inj hf)), zt_go hE hP hS zt_id ht hW⟩, hS.F ht⟩) hS.2.2 dX9_record_61
    · have hf := (if_pos c12).symm.trans hf
      refine lv_iconst (v := 0) hx hb dX9_record_33 (by decide) ?_
      exact W.iret hx hb hr (fun t ht hW => ⟨⟨_, _, rfl, (Prod.mk.inj (Option.some.inj hf)), zt_go hE hP hS zt_id ht hW⟩, hS.F ht⟩) hS.2.2 dX9_record_34
  have B26 : ∀ (σ : zt_St) (y0 : Int32) (u1 : Int32) (u2 : Int32) (u3 : Int32) (H : Heap) (locs : List Loc) (ls : Array Slot), f_X9_record_26 σ y0 u1 u2 u3 = some (r, σ1) → va_P (zt_D G) vwCl (zt_ww G σ) H → va_S (zt_A G) s.heap H locs → lv_has ls 5 [(0, .ref (zt_ad G 94)), (1, .int u1), (2, .int u2), (3, .int u3)] → W p l e (zt_R 4 84) s m ([.ref (zt_ad G 94), .int x1, .int x2, .int x3] : List Value).toArray below meth c H locs 0 0 (MQ below (zt_Ci G r σ1) ([.ref (zt_ad G 94), .int x1, .int x2, .int x3] : List Value).toArray s 0 0 (zt_A G)) (F0 m 26 ls [.int y0, .ref (zt_ad G 94)]) := by
    intro σ y0 u1 u2 u3 H locs ls hf hP hS hl
    unfold f_X9_record_26 at hf
    refine lv_iconst (v := 0) hx hb dX9_record_26 (by decide) ?_
    exact B27 σ 0 y0 u1 u2 u3 _ _ _ hf hP hS (lv_sub hl [0, 1, 2, 3] rfl)
  unfold f_X9_record at hf
  refine lv_aload_n hx hb dX9_record_0 rfl (lv_at hl 0 rfl) ?_
  refine lv_aload_n hx hb dX9_record_1 rfl (lv_at hl 0 rfl) ?_
  refine lv_iload_n hx hb dX9_record_2 rfl (lv_at hl 1 rfl) ?_
  obtain ⟨v1, hvv1, hf⟩ := zt_bd_some hf
  refine va_calli (va_runV (As := [.int x1]) (rest := [.ref (zt_ad G 94)]) ⟨hx, hb, hml, hown, hts⟩ (m_X9_isZone l G (σ := σ) hvv1) (cwV 1 hts gX9_record_X9_isZone rfl rfl rfl zh_X9_isZone ⟨Nat.le_of_ble_eq_true rfl, Nat.le_of_ble_eq_true rfl⟩) ⟨zt_blind, va_recv hK hP (ci := 8) (q0 := 94) rfl (zt_a8 (rfl : zt_kd 94 = 8)), fun U hU hW => ⟨rfl, zt_go hE hP hS zt_id hU hW⟩⟩ rfl rfl hl.1 rfl (lv_room (Nat.le_of_ble_eq_true rfl)) dX9_record_3 ⟨Nat.zero_le _, Nat.zero_le _⟩) hS (fun _ _ h => h) (fun _ h => h) (fun r u t H locs ht hvm hw hB _ _ hS => ?_)
  rw [hw.1]; have hB : zt_B G u t := hB; rw [hw.2] at hB; have hP := zt_B.P hB ht
  refine lv_iload_n hx hb dX9_record_6 rfl (lv_at hl 2 rfl) ?_
  obtain ⟨v3, hvv3, hf⟩ := zt_bd_some hf
  refine va_calli (va_runS (As := [.int x2]) (rest := [.int v1, .ref (zt_ad G 94)]) ⟨hx, hb, hml, hown, hts⟩ (m_X9_isPlace l G (σ := σ) hvv3) (va_cwS 1 hts gX9_record_X9_isPlace rfl rfl rfl zh_X9_isPlace ⟨Nat.le_of_ble_eq_true rfl, Nat.le_of_ble_eq_true rfl⟩) ⟨zt_blind, fun U hU hW => ⟨rfl, zt_go hE hP hS zt_id hU hW⟩⟩ rfl rfl hl.1 rfl (lv_room (Nat.le_of_ble_eq_true rfl)) dX9_record_7 ⟨Nat.zero_le _, Nat.zero_le _⟩) hS (fun _ _ h => h) (fun _ h => h) (fun r u t H locs ht hvm hw hB _ _ hS => ?_)
  rw [hw.1]; have hB : zt_B G u t := hB; rw [hw.2] at hB; have hP := zt_B.P hB ht
  refine lv_if_eq (tgt := 26) hx hb dX9_record_10 (by decide) (fun c5 => ?_) (fun c5 => ?_)
  · have hf := (if_pos c5).symm.trans hf
    exact B26 σ v1 x1 x2 x3 _ _ _ hf hP hS (lv_sub hl [0, 1, 2, 3] rfl)
  · have hf := (if_neg c5).symm.trans hf
    refine lv_iload_n hx hb dX9_record_13 rfl (lv_at hl 3 rfl) ?_
    refine lv_iconst (v := 0) hx hb dX9_record_14 (by decide) ?_
    refine lv_iconst (v := 4) hx hb dX9_record_15 (by decide) ?_
    obtain ⟨v6, hvv6, hf⟩ := zt_bd_some hf
    refine va_calli (va_runS (As := [.int x3, .int 0, .int 4]) (rest := [.int v1, .ref (zt_ad G 94)]) ⟨hx, hb, hml, hown, hts⟩ (m_X9_in l G (σ := σ) hvv6) (va_cwS 3 hts gX9_record_X9_in rfl rfl rfl zh_X9_in ⟨Nat.le_of_ble_eq_true rfl, Nat.le_of_ble_eq_true rfl⟩) ⟨zt_blind, fun U hU hW => ⟨rfl, zt_go hE hP hS zt_id hU hW⟩⟩ rfl rfl hl.1 rfl (lv_room (Nat.le_of_ble_eq_true rfl)) dX9_record_16 ⟨Nat.zero_le _, Nat.zero_le _⟩) hS (fun _ _ h => h) (fun _ h => h) (fun r u t H locs ht hvm hw hB _ _ hS => ?_)
    rw [hw.1]; have hB : zt_B G u t := hB; rw [hw.2] at hB; have hP := zt_B.P hB ht
    refine lv_if_eq (tgt := 26) hx hb dX9_record_19 (by decide) (fun c8 => ?_) (fun c8 => ?_)
    · have hf := (if_pos c8).symm.trans hf
      exact B26 σ v1 x1 x2 x3 _ _ _ hf hP hS (lv_sub hl [0, 1, 2, 3] rfl)
    · have hf := (if_neg c8).symm.trans hf
      refine lv_iconst (v := 1) hx hb dX9_record_22 (by decide) ?_
      refine lv_goto (tgt := 27) hx hb dX9_record_23 (by decide) ?_
      exact B27 σ 1 v1 x1 x2 x3 _ _ _ hf hP hS (lv_sub hl [0, 1, 2, 3] rfl)

theorem zh_X9_unlike : yX9_unlike.cls = RX9 ∧ yX9_unlike.cls ≠ "java/lang/invoke/MethodHandle" ∧ yX9_unlike.cls ≠ "java/lang/invoke/VarHandle" ∧ (parseMethodDescriptor yX9_unlike.desc).map (fun d => d.parameters.length) = some 2 := by decide +kernel
set_option maxHeartbeats 4000000 in
set_option maxRecDepth 100000 in
theorem m_X9_unlike (l : Launch) (G : zt_G) {σ : zt_St} {x1 : Int32} {x2 : Int32} {r : Int32} (hf : f_X9_unlike σ x1 x2 = some r) : zt_Mi l G yX9_unlike wsX9_unlike 1 24 [.ref (zt_ad G 94), .int x1, .int x2] σ r σ := by
  refine Met.ofW (cc := cX9_unlike) (maxL := 6) (ret := (some .int)) (by decide) rfl ?_
  intro p e s m args below meth c s₁ B hml hv
  obtain ⟨rfl, hBB⟩ := hv
  have hE := zt_B.env hBB; have hK := hE.2.1; have hP := hBB.2.1
  have hx := B.exec; have hb := B.bytes; have hr := B.returns; have hts := atoms_spec (ws := wsX9_unlike) B.pre
  have hown : s.vm.findClass RX9 = some m.cls := findClass_of_methodNamed B.named
  have hlocks := B.notSynchronized
  have hS : va_S (zt_A G) s.heap s.heap [] := va_S.rf
  have hl := lv_entry ([.ref (zt_ad G 94), .int x1, .int x2]) (n := 6) (Nat.le_of_ble_eq_true rfl)
  rw [lg_entry_eq]
  generalize (lg_sl ([.ref (zt_ad G 94), .int x1, .int x2]) ++ List.replicate (6 - (lg_sl ([.ref (zt_ad G 94), .int x1, .int x2])).length) Slot.unset).toArray = ls at hl ⊢
  have hl : lv_has ls 6 [(0, .ref (zt_ad G 94)), (1, .int x1), (2, .int x2)] := hl
  show W p l e (zt_R 1 24) s m ([.ref (zt_ad G 94), .int x1, .int x2] : List Value).toArray below meth c s.heap [] 0 0 (MQ below (zt_Ci G r σ) ([.ref (zt_ad G 94), .int x1, .int x2] : List Value).toArray s 0 0 (zt_A G)) (F0 m 0 ls [])
  have fl42 := hts (.fieldLink RX9 42 "ZoneTreeModel" "many" "[I") (List.mem_cons_of_mem _ (List.mem_append_left _ (List.mem_of_getElem? (i := 0) rfl)))
  have fl45 := hts (.fieldLink RX9 45 "ZoneTreeModel" "name" "[I") (List.mem_cons_of_mem _ (List.mem_append_left _ (List.mem_of_getElem? (i := 1) rfl)))
  have fl48 := hts (.fieldLink RX9 48 "ZoneTreeModel" "sort" "[I") (List.mem_cons_of_mem _ (List.mem_append_left _ (List.mem_of_getElem? (i := 2) rfl)))
  have fl51 := hts (.fieldLink RX9 51 "ZoneTreeModel" "number" "[I") (List.mem_cons_of_mem _ (List.mem_append_left _ (List.mem_of_getElem? (i := 3) rfl)))
  have fl54 := hts (.fieldLink RX9 54 "ZoneTreeModel" "life" "[I") (List.mem_cons_of_mem _ (List.mem_append_left _ (List.mem_of_getElem? (i := 4) rfl)))
  have inX9 : ∀ w ∈ wsX90, w ∈ wsX9_unlike := fun w h => (List.mem_cons_of_mem _ (List.mem_append_right _ h))
  have B91 : ∀ (rc8 : Int32 → Int32 → Int32 → Int32 → Option (Int32)) (hrc8 : ∀ (u1 : Int32) (u2 : Int32) (u3 : Int32) (u4 : Int32) (H : Heap) (locs : List Loc) (ls : Array Slot), rc8 u1 u2 u3 u4 = some r → va_P (zt_D G) vwCl (zt_ww G σ) H → va_S (zt_A G) s.heap H locs → lv_has ls 6 [(0, .ref (zt_ad G 94)), (1, .int u1), (2, .int u2), (3, .int u3), (4, .int u4)] → W p l e (zt_R 1 24) s m ([.ref (zt_ad G 94), .int x1, .int x2] : List Value).toArray below meth c H locs 0 0 (MQ below (zt_Ci G r σ) ([.ref (zt_ad G 94), .int x1, .int x2] : List Value).toArray s 0 0 (zt_A G)) (F0 m 8 ls [])), ∀ (y0 : Int32) (y1 : Int32) (u1 : Int32) (u2 : Int32) (u4 : Int32) (H : Heap) (locs : List Loc) (ls : Array Slot), f_X9_unlike_91 σ rc8 y0 y1 u1 u2 u4 = some r → va_P (zt_D G) vwCl (zt_ww G σ) H → va_S (zt_A G) s.heap H locs → lv_has ls 6 [(0, .ref (zt_ad G 94)), (1, .int u1), (2, .int u2), (4, .int u4)] → W p l e (zt_R 1 24) s m ([.ref (zt_ad G 94), .int x1, .int x2] : List Value).toArray below meth c H locs 0 0 (MQ below (zt_Ci G r σ) ([.ref (zt_ad G 94), .int x1, .int x2] : List Value).toArray s 0 0 (zt_A G)) (F0 m 91 ls [.int y0, .int y1]) := by
    intro rc8 hrc8 y0 y1 u1 u2 u4 H locs ls hf hP hS hl
    unfold f_X9_unlike_91 at hf
    refine lv_iadd hx hb dX9_unlike_91 ?_
    refine lv_istore_n (lv' := [(3, .int (y1 + y0)), (0, .ref (zt_ad G 94)), (1, .int u1), (2, .int u2), (4, .int u4)]) hx hb dX9_unlike_92 rfl hl (by decide) rfl (fun ls hl => ?_)
    refine lv_iinc (v := (u4 + 1)) (lv' := [(4, .int (u4 + 1)), (3, .int (y1 + y0)), (0, .ref (zt_ad G 94)), (1, .int u1), (2, .int u2)]) hx hb dX9_unlike_93 hl (k := 4) rfl rfl (by decide) rfl (fun ls hl => ?_)
    refine lv_goto (tgt := 8) hx hb dX9_unlike_96 (by decide) ?_
    exact hrc8 u1 u2 (y1 + y0) (u4 + 1) _ _ _ hf hP hS (lv_sub hl [2, 3, 4, 1, 0] rfl)
  have B86 : ∀ (rc8 : Int32 → Int32 → Int32 → Int32 → Option (Int32)) (hrc8 : ∀ (u1 : Int32) (u2 : Int32) (u3 : Int32) (u4 : Int32) (H : Heap) (locs : List Loc) (ls : Array Slot), rc8 u1 u2 u3 u4 = some r → va_P (zt_D G) vwCl (zt_ww G σ) H → va_S (zt_A G) s.heap H locs → lv_has ls 6 [(0, .ref (zt_ad G 94)), (1, .int u1), (2, .int u2), (3, .int u3), (4, .int u4)] → W p l e (zt_R 1 24) s m ([.ref (zt_ad G 94), .int x1, .int x2] : List Value).toArray below meth c H locs 0 0 (MQ below (zt_Ci G r σ) ([.ref (zt_ad G 94), .int x1, .int x2] : List Value).toArray s 0 0 (zt_A G)) (F0 m 8 ls [])), ∀ (y0 : Int32) (u1 : Int32) (u2 : Int32) (u4 : Int32) (H : Heap) (locs : List Loc) (ls : Array Slot), f_X9_unlike_86 σ rc8 y0 u1 u2 u4 = some r → va_P (zt_D G) vwCl (zt_ww G σ) H → va_S (zt_A G) s.heap H locs → lv_has ls 6 [(0, .ref (zt_ad G 94)), (1, .int u1), (2, .int u2), (4, .int u4)] → W p l e (zt_R 1 24) s m ([.ref (zt_ad G 94), .int x1, .int x2] : List Value).toArray below meth c H locs 0 0 (MQ below (zt_Ci G r σ) ([.ref (zt_ad G 94), .int x1, .int x2] : List Value).toArray s 0 0 (zt_A G)) (F0 m 86 ls [.int y0]) := by
    intro rc8 hrc8 y0 u1 u2 u4 H locs ls hf hP hS hl
    unfold f_X9_unlike_86 at hf
    refine lv_iconst (v := 1) hx hb dX9_unlike_86 (by decide) ?_
    refine lv_goto (tgt := 91) hx hb dX9_unlike_87 (by decide) ?_
    exact B91 rc8 hrc8 1 y0 u1 u2 u4 _ _ _ hf hP hS (lv_sub hl [0, 1, 2, 3] rfl)
  have B8 : ∀ (n : Nat), ∀ (u1 : Int32) (u2 : Int32) (u3 : Int32) (u4 : Int32) (H : Heap) (locs : List Loc) (ls : Array Slot), f_X9_unlike_8 σ n u1 u2 u3 u4 = some r → va_P (zt_D G) vwCl (zt_ww G σ) H → va_S (zt_A G) s.heap H locs → lv_has ls 6 [(0, .ref (zt_ad G 94)), (1, .int u1), (2, .int u2), (3, .int u3), (4, .int u4)] → W p l e (zt_R 1 24) s m ([.ref (zt_ad G 94), .int x1, .int x2] : List Value).toArray below meth c H locs 0 0 (MQ below (zt_Ci G r σ) ([.ref (zt_ad G 94), .int x1, .int x2] : List Value).toArray s 0 0 (zt_A G)) (F0 m 8 ls []) := by
    intro n
    induction n with
    | zero => intro u1 u2 u3 u4 H locs ls hf; exact nomatch hf
    | succ n hrc8 =>
      intro u1 u2 u3 u4 H locs ls hf hP hS hl
      generalize hrcg : f_X9_unlike_8 σ n = rc8 at hrc8
      have hf : f_X9_unlike_8b σ rc8 u1 u2 u3 u4 = some r := by rw [← hrcg]; exact hf
      unfold f_X9_unlike_8b at hf
      refine lv_iload hx hb dX9_unlike_8 (lv_at hl 4 rfl) ?_
      refine lv_bipush (v := 32) hx hb dX9_unlike_10 (by decide +kernel) ?_
      refine lv_iload_n hx hb dX9_unlike_12 rfl (lv_at hl 1 rfl) ?_
      refine lv_imul hx hb dX9_unlike_13 ?_
      refine lv_aload_n hx hb dX9_unlike_14 rfl (lv_at hl 0 rfl) ?_
      refine va_get (D := zt_D G) (ci := 8) (v := .ref (zt_ad G 103)) (C := RX9) (T := TX9) (N := 37) hx hb hts inX9 hown hK hP 94 (zt_a8 (rfl : zt_kd 94 = 8)) rfl 12 (by decide) fl42 (fun _ h9 => h9) rfl dX9_unlike_15 ?_
      refine lv_iload_n hx hb dX9_unlike_18 rfl (lv_at hl 1 rfl) ?_
      obtain ⟨g1, hf⟩ := zt_gd_some hf
      refine va_iald hx hb hK hP 103 0 zt_a_103 rfl (zt_gI_in g1) dX9_unlike_19 ?_
      refine lv_iadd hx hb dX9_unlike_20 ?_
      refine lv_icmp_ge (tgt := 99) hx hb dX9_unlike_21 (by decide) (fun c2 => ?_) (fun c2 => ?_)
      · have hf := (if_pos c2).symm.trans hf
        refine lv_iload_n hx hb dX9_unlike_99 rfl (lv_at hl 3 rfl) ?_
        exact W.iret hx hb hr (fun t ht hW => ⟨⟨_, _, rfl, ⟨Option.some.inj hf, rfl⟩, zt_go hE hP hS zt_id ht hW⟩, hS.F ht⟩) hS.2.2 dX9_unlike_100
      · have hf := (if_neg c2).symm.trans hf
        refine lv_aload_n hx hb dX9_unlike_24 rfl (lv_at hl 0 rfl) ?_
        refine lv_iload_n hx hb dX9_unlike_25 rfl (lv_at hl 2 rfl) ?_
        refine lv_aload_n hx hb dX9_unlike_26 rfl (lv_at hl 0 rfl) ?_
        refine va_get (D := zt_D G) (ci := 8) (v := .ref (zt_ad G 104)) (C := RX9) (T := TX9) (N := 37) hx hb hts inX9 hown hK hP 94 (zt_a8 (rfl : zt_kd 94 = 8)) rfl 13 (by decide) fl45 (fun _ h9 => h9) rfl dX9_unlike_27 ?_
        refine lv_iload hx hb dX9_unlike_30 (lv_at hl 4 rfl) ?_
        obtain ⟨g3, hf⟩ := zt_gd_some hf
        refine va_iald hx hb hK hP 104 0 zt_a_104 rfl (zt_gI_in g3) dX9_unlike_32 ?_
        refine lv_aload_n hx hb dX9_unlike_33 rfl (lv_at hl 0 rfl) ?_
        refine va_get (D := zt_D G) (ci := 8) (v := .ref (zt_ad G 105)) (C := RX9) (T := TX9) (N := 37) hx hb hts inX9 hown hK hP 94 (zt_a8 (rfl : zt_kd 94 = 8)) rfl 14 (by decide) fl48 (fun _ h9 => h9) rfl dX9_unlike_34 ?_
        refine lv_iload hx hb dX9_unlike_37 (lv_at hl 4 rfl) ?_
        obtain ⟨g4, hf⟩ := zt_gd_some hf
        refine va_iald hx hb hK hP 105 0 zt_a_105 rfl (zt_gI_in g4) dX9_unlike_39 ?_
        obtain ⟨v5, hvv5, hf⟩ := zt_bd_some hf
        refine va_calli (va_runV (As := [.int u2, .int (σ 104 u4.toNatClampNeg), .int (σ 105 u4.toNatClampNeg)]) (rest := []) ⟨hx, hb, hml, hown, hts⟩ (m_X9_find l G (σ := σ) hvv5) (cwV 3 hts gX9_unlike_X9_find rfl rfl rfl zh_X9_find ⟨Nat.le_of_ble_eq_true rfl, Nat.le_of_ble_eq_true rfl⟩) ⟨zt_blind, va_recv hK hP (ci := 8) (q0 := 94) rfl (zt_a8 (rfl : zt_kd 94 = 8)), fun U hU hW => ⟨rfl, zt_go hE hP hS zt_id hU hW⟩⟩ rfl rfl hl.1 rfl (lv_room (Nat.le_of_ble_eq_true rfl)) dX9_unlike_40 ⟨Nat.zero_le _, Nat.zero_le _⟩) hS (fun _ _ h => h) (fun _ h => h) (fun r u t H locs ht hvm hw hB _ _ hS => ?_)
        rw [hw.1]; have hB : zt_B G u t := hB; rw [hw.2] at hB; have hP := zt_B.P hB ht
        refine lv_istore (lv' := [(5, .int v5), (0, .ref (zt_ad G 94)), (1, .int u1), (2, .int u2), (3, .int u3), (4, .int u4)]) hx hb dX9_unlike_43 hl (by decide) rfl (fun ls hl => ?_)
        refine lv_iload_n hx hb dX9_unlike_45 rfl (lv_at hl 4 rfl) ?_
        refine lv_iload hx hb dX9_unlike_46 (lv_at hl 0 rfl) ?_
        refine lv_iconst (v := (-1)) hx hb dX9_unlike_48 (by decide) ?_
        refine lv_icmp_eq (tgt := 86) hx hb dX9_unlike_49 (by decide) (fun c7 => ?_) (fun c7 => ?_)
        · have hf := (if_pos c7).symm.trans hf
          exact B86 rc8 hrc8 u3 u1 u2 u4 _ _ _ hf hP hS (lv_sub hl [1, 2, 3, 5] rfl)
        · have hf := (if_neg c7).symm.trans hf
          refine lv_aload_n hx hb dX9_unlike_52 rfl (lv_at hl 1 rfl) ?_
          refine va_get (D := zt_D G) (ci := 8) (v := .ref (zt_ad G 106)) (C := RX9) (T := TX9) (N := 37) hx hb hts inX9 hown hK hP 94 (zt_a8 (rfl : zt_kd 94 = 8)) rfl 15 (by decide) fl51 (fun _ h9 => h9) rfl dX9_unlike_53 ?_
          refine lv_iload hx hb dX9_unlike_56 (lv_at hl 0 rfl) ?_
          obtain ⟨g8, hf⟩ := zt_gd_some hf
          refine va_iald hx hb hK hP 106 0 zt_a_106 rfl (zt_gI_in g8) dX9_unlike_58 ?_
          refine lv_aload_n hx hb dX9_unlike_59 rfl (lv_at hl 1 rfl) ?_
          refine va_get (D := zt_D G) (ci := 8) (v := .ref (zt_ad G 106)) (C := RX9) (T := TX9) (N := 37) hx hb hts inX9 hown hK hP 94 (zt_a8 (rfl : zt_kd 94 = 8)) rfl 15 (by decide) fl51 (fun _ h9 => h9) rfl dX9_unlike_60 ?_
          refine lv_iload hx hb dX9_unlike_63 (lv_at hl 5 rfl) ?_
          obtain ⟨g9, hf⟩ := zt_gd_some hf
          refine va_iald hx hb hK hP 106 0 zt_a_106 rfl (zt_gI_in g9) dX9_unlike_65 ?_
          refine lv_icmp_ne (tgt := 86) hx hb dX9_unlike_66 (by decide) (fun c10 => ?_) (fun c10 => ?_)
          · have hf := (if_neg c10).symm.trans hf
            exact B86 rc8 hrc8 u3 u1 u2 u4 _ _ _ hf hP hS (lv_sub hl [1, 2, 3, 5] rfl)
          · have hf := (if_pos c10).symm.trans hf
            refine lv_aload_n hx hb dX9_unlike_69 rfl (lv_at hl 1 rfl) ?_
            refine va_get (D := zt_D G) (ci := 8) (v := .ref (zt_ad G 107)) (C := RX9) (T := TX9) (N := 37) hx hb hts inX9 hown hK hP 94 (zt_a8 (rfl : zt_kd 94 = 8)) rfl 16 (by decide) fl54 (fun _ h9 => h9) rfl dX9_unlike_70 ?_
            refine lv_iload hx hb dX9_unlike_73 (lv_at hl 0 rfl) ?_
            obtain ⟨g11, hf⟩ := zt_gd_some hf
            refine va_iald hx hb hK hP 107 0 zt_a_107 rfl (zt_gI_in g11) dX9_unlike_75 ?_
            refine lv_aload_n hx hb dX9_unlike_76 rfl (lv_at hl 1 rfl) ?_
            refine va_get (D := zt_D G) (ci := 8) (v := .ref (zt_ad G 107)) (C := RX9) (T := TX9) (N := 37) hx hb hts inX9 hown hK hP 94 (zt_a8 (rfl : zt_kd 94 = 8)) rfl 16 (by decide) fl54 (fun _ h9 => h9) rfl dX9_unlike_77 ?_
            refine lv_iload hx hb dX9_unlike_80 (lv_at hl 5 rfl) ?_
            obtain ⟨g12, hf⟩ := zt_gd_some hf
            refine va_iald hx hb hK hP 107 0 zt_a_107 rfl (zt_gI_in g12) dX9_unlike_82 ?_
            refine lv_icmp_eq (tgt := 90) hx hb dX9_unlike_83 (by decide) (fun c13 => ?_) (fun c13 => ?_)
            · have hf := (if_pos c13).symm.trans hf
              refine lv_iconst (v := 0) hx hb dX9_unlike_90 (by decide) ?_
              exact B91 rc8 hrc8 0 u3 u1 u2 u4 _ _ _ hf hP hS (lv_sub hl [1, 2, 3, 5] rfl)
            · have hf := (if_neg c13).symm.trans hf
              exact B86 rc8 hrc8 u3 u1 u2 u4 _ _ _ hf hP hS (lv_sub hl [1, 2, 3, 5] rfl)
  unfold f_X9_unlike at hf
  refine lv_iconst (v := 0) hx hb dX9_unlike_0 (by decide) ?_
  refine lv_istore_n (lv' := [(3, .int 0), (0, .ref (zt_ad G 94)), (1, .int x1), (2, .int x2)]) hx hb dX9_unlike_1 rfl hl (by decide) rfl (fun ls hl => ?_)
  refine lv_bipush (v := 32) hx hb dX9_unlike_2 (by decide +kernel) ?_
  refine lv_iload_n hx hb dX9_unlike_4 rfl (lv_at hl 2 rfl) ?_
  refine lv_imul hx hb dX9_unlike_5 ?_
  refine lv_istore (lv' := [(4, .int (32 * x1)), (3, .int 0), (0, .ref (zt_ad G 94)), (1, .int x1), (2, .int x2)]) hx hb dX9_unlike_6 hl (by decide) rfl (fun ls hl => ?_)
  exact B8 zt_FU x1 x2 0 (32 * x1) _ _ _ hf hP hS (lv_sub hl [2, 3, 4, 1, 0] rfl)

theorem zh_X9_bringUp : yX9_bringUp.cls = RX9 ∧ yX9_bringUp.cls ≠ "java/lang/invoke/MethodHandle" ∧ yX9_bringUp.cls ≠ "java/lang/invoke/VarHandle" ∧ (parseMethodDescriptor yX9_bringUp.desc).map (fun d => d.parameters.length) = some 1 := by decide +kernel
set_option maxHeartbeats 4000000 in
set_option maxRecDepth 100000 in
theorem m_X9_bringUp (l : Launch) (G : zt_G) {σ : zt_St} {x1 : Int32} {r : Int32} {σ1 : zt_St} (hf : f_X9_bringUp σ x1 = some (r, σ1)) : zt_Mi l G yX9_bringUp wsX9_bringUp 2 49 [.ref (zt_ad G 94), .int x1] σ r σ1 := by
  refine Met.ofW (cc := cX9_bringUp) (maxL := 5) (ret := (some .int)) (by decide) rfl ?_
  intro p e s m args below meth c s₁ B hml hv
  obtain ⟨rfl, hBB⟩ := hv
  have hE := zt_B.env hBB; have hK := hE.2.1; have hP := hBB.2.1
  have hx := B.exec; have hb := B.bytes; have hr := B.returns; have hts := atoms_spec (ws := wsX9_bringUp) B.pre
  have hown : s.vm.findClass RX9 = some m.cls := findClass_of_methodNamed B.named
  have hlocks := B.notSynchronized
  have hS : va_S (zt_A G) s.heap s.heap [] := va_S.rf
  have hl := lv_entry ([.ref (zt_ad G 94), .int x1]) (n := 5) (Nat.le_of_ble_eq_true rfl)
  rw [lg_entry_eq]
  generalize (lg_sl ([.ref (zt_ad G 94), .int x1]) ++ List.replicate (5 - (lg_sl ([.ref (zt_ad G 94), .int x1])).length) Slot.unset).toArray = ls at hl ⊢
  have hl : lv_has ls 5 [(0, .ref (zt_ad G 94)), (1, .int x1)] := hl
  show W p l e (zt_R 2 49) s m ([.ref (zt_ad G 94), .int x1] : List Value).toArray below meth c s.heap [] 0 0 (MQ below (zt_Ci G r σ1) ([.ref (zt_ad G 94), .int x1] : List Value).toArray s 0 0 (zt_A G)) (F0 m 0 ls [])
  have fl20 := hts (.fieldLink RX9 20 "ZoneTreeModel" "serial" "[I") (List.mem_cons_of_mem _ (List.mem_append_left _ (List.mem_append_left _ (List.mem_of_getElem? (i := 0) rfl))))
  have fl23 := hts (.fieldLink RX9 23 "ZoneTreeModel" "copied" "[I") (List.mem_cons_of_mem _ (List.mem_append_left _ (List.mem_append_left _ (List.mem_of_getElem? (i := 1) rfl))))
  have fl42 := hts (.fieldLink RX9 42 "ZoneTreeModel" "many" "[I") (List.mem_cons_of_mem _ (List.mem_append_left _ (List.mem_append_left _ (List.mem_of_getElem? (i := 2) rfl))))
  have inX9 : ∀ w ∈ wsX90, w ∈ wsX9_bringUp := fun w h => (List.mem_cons_of_mem _ (List.mem_append_right _ h))
  have B103 : ∀ (σ : zt_St) (y0 : Int32) (u1 : Int32) (H : Heap) (locs : List Loc) (ls : Array Slot), f_X9_bringUp_103 σ y0 u1 = some (r, σ1) → va_P (zt_D G) vwCl (zt_ww G σ) H → va_S (zt_A G) s.heap H locs → lv_has ls 5 [(0, .ref (zt_ad G 94)), (1, .int u1)] → W p l e (zt_R 2 49) s m ([.ref (zt_ad G 94), .int x1] : List Value).toArray below meth c H locs 0 0 (MQ below (zt_Ci G r σ1) ([.ref (zt_ad G 94), .int x1] : List Value).toArray s 0 0 (zt_A G)) (F0 m 103 ls [.int y0]) := by
    intro σ y0 u1 H locs ls hf hP hS hl
    unfold f_X9_bringUp_103 at hf
    refine lv_istore (lv' := [(4, .int y0), (0, .ref (zt_ad G 94)), (1, .int u1)]) hx hb dX9_bringUp_103 hl (by decide) rfl (fun ls hl => ?_)
    refine lv_aload_n hx hb dX9_bringUp_105 rfl (lv_at hl 1 rfl) ?_
    refine lv_iload_n hx hb dX9_bringUp_106 rfl (lv_at hl 2 rfl) ?_
    refine lv_bipush (v := 6) hx hb dX9_bringUp_107 (by decide +kernel) ?_
    refine lv_iload_n hx hb dX9_bringUp_109 rfl (lv_at hl 2 rfl) ?_
    refine lv_iadd hx hb dX9_bringUp_110 ?_
    obtain ⟨σ22, hvv21, hf⟩ := zt_bd_some hf
    refine va_callv (va_runV (As := [.int u1, .int (6 + u1)]) (rest := []) ⟨hx, hb, hml, hown, hts⟩ (m_X9_copies l G (σ := σ) hvv21) (cwV 2 hts gX9_bringUp_X9_copies rfl rfl rfl zh_X9_copies ⟨Nat.le_of_ble_eq_true rfl, Nat.le_of_ble_eq_true rfl⟩) ⟨zt_blind, va_recv hK hP (ci := 8) (q0 := 94) rfl (zt_a8 (rfl : zt_kd 94 = 8)), fun U hU hW => ⟨rfl, zt_go hE hP hS zt_id hU hW⟩⟩ rfl rfl hl.1 rfl (lv_room (Nat.le_of_ble_eq_true rfl)) dX9_bringUp_111 ⟨Nat.zero_le _, Nat.zero_le _⟩) hS (fun _ _ h => h) (fun _ h => h) (fun u t H locs ht hvm hw hB _ _ hS => ?_)
    have hB : zt_B G u t := hB; rw [hw] at hB; have hP := zt_B.P hB ht
    refine lv_aload_n hx hb dX9_bringUp_114 rfl (lv_at hl 1 rfl) ?_
    refine va_get (D := zt_D G) (ci := 8) (v := .ref (zt_ad G 98)) (C := RX9) (T := TX9) (N := 37) hx hb hts inX9 hown hK hP 94 (zt_a8 (rfl : zt_kd 94 = 8)) rfl 6 (by decide) fl23 (fun _ h9 => h9) rfl dX9_bringUp_115 ?_
    refine lv_iload_n hx hb dX9_bringUp_118 rfl (lv_at hl 2 rfl) ?_
    refine lv_aload_n hx hb dX9_bringUp_119 rfl (lv_at hl 1 rfl) ?_
    refine va_get (D := zt_D G) (ci := 8) (v := .ref (zt_ad G 97)) (C := RX9) (T := TX9) (N := 37) hx hb hts inX9 hown hK hP 94 (zt_a8 (rfl : zt_kd 94 = 8)) rfl 5 (by decide) fl20 (fun _ h9 => h9) rfl dX9_bringUp_120 ?_
    refine lv_iload_n hx hb dX9_bringUp_123 rfl (lv_at hl 2 rfl) ?_
    obtain ⟨g23, hf⟩ := zt_gd_some hf
    refine va_iald hx hb hK hP 97 0 zt_a_97 rfl (zt_gI_in g23) dX9_bringUp_124 ?_
    obtain ⟨g24, hf⟩ := zt_gd_some hf
    obtain ⟨σ25, hσ25, hf⟩ := zt_lt_some hf
    refine va_iast hx hb hK hP (zt_apart hE.1) hS 98 0 zt_a_98 rfl (zt_gI_in g24) dX9_bringUp_125 (fun H locs hP _ hS => ?_)
    rw [zt_p_98, ← hσ25] at hP
    refine lv_iload hx hb dX9_bringUp_126 (lv_at hl 0 rfl) ?_
    exact W.iret hx hb hr (fun t ht hW => ⟨⟨_, _, rfl, (Prod.mk.inj (Option.some.inj hf)), zt_go hE hP hS zt_id ht hW⟩, hS.F ht⟩) hS.2.2 dX9_bringUp_128
  have B70 : ∀ (σ : zt_St) (y0 : Int32) (u1 : Int32) (H : Heap) (locs : List Loc) (ls : Array Slot), f_X9_bringUp_70 σ y0 u1 = some (r, σ1) → va_P (zt_D G) vwCl (zt_ww G σ) H → va_S (zt_A G) s.heap H locs → lv_has ls 5 [(0, .ref (zt_ad G 94)), (1, .int u1)] → W p l e (zt_R 2 49) s m ([.ref (zt_ad G 94), .int x1] : List Value).toArray below meth c H locs 0 0 (MQ below (zt_Ci G r σ1) ([.ref (zt_ad G 94), .int x1] : List Value).toArray s 0 0 (zt_A G)) (F0 m 70 ls [.int y0]) := by
    intro σ y0 u1 H locs ls hf hP hS hl
    unfold f_X9_bringUp_70 at hf
    refine lv_istore_n (lv' := [(3, .int y0), (0, .ref (zt_ad G 94)), (1, .int u1)]) hx hb dX9_bringUp_70 rfl hl (by decide) rfl (fun ls hl => ?_)
    refine lv_iload_n hx hb dX9_bringUp_71 rfl (lv_at hl 0 rfl) ?_
    refine lv_if_eq (tgt := 97) hx hb dX9_bringUp_72 (by decide) (fun c15 => ?_) (fun c15 => ?_)
    · have hf := (if_pos c15).symm.trans hf
      refine lv_aload_n hx hb dX9_bringUp_97 rfl (lv_at hl 1 rfl) ?_
      refine va_get (D := zt_D G) (ci := 8) (v := .ref (zt_ad G 103)) (C := RX9) (T := TX9) (N := 37) hx hb hts inX9 hown hK hP 94 (zt_a8 (rfl : zt_kd 94 = 8)) rfl 12 (by decide) fl42 (fun _ h9 => h9) rfl dX9_bringUp_98 ?_
      refine lv_iload_n hx hb dX9_bringUp_101 rfl (lv_at hl 2 rfl) ?_
      obtain ⟨g16, hf⟩ := zt_gd_some hf
      refine va_iald hx hb hK hP 103 0 zt_a_103 rfl (zt_gI_in g16) dX9_bringUp_102 ?_
      exact B103 σ (σ 103 u1.toNatClampNeg) u1 _ _ _ hf hP hS (lv_sub hl [1, 2] rfl)
    · have hf := (if_neg c15).symm.trans hf
      refine lv_aload_n hx hb dX9_bringUp_75 rfl (lv_at hl 1 rfl) ?_
      refine lv_iload_n hx hb dX9_bringUp_76 rfl (lv_at hl 2 rfl) ?_
      refine lv_bipush (v := 6) hx hb dX9_bringUp_77 (by decide +kernel) ?_
      refine lv_iload_n hx hb dX9_bringUp_79 rfl (lv_at hl 2 rfl) ?_
      refine lv_iadd hx hb dX9_bringUp_80 ?_
      obtain ⟨v17, hvv17, hf⟩ := zt_bd_some hf
      refine va_calli (va_runV (As := [.int u1, .int (6 + u1)]) (rest := []) ⟨hx, hb, hml, hown, hts⟩ (m_X9_unlike l G (σ := σ) hvv17) (cwV 2 hts gX9_bringUp_X9_unlike rfl rfl rfl zh_X9_unlike ⟨Nat.le_of_ble_eq_true rfl, Nat.le_of_ble_eq_true rfl⟩) ⟨zt_blind, va_recv hK hP (ci := 8) (q0 := 94) rfl (zt_a8 (rfl : zt_kd 94 = 8)), fun U hU hW => ⟨rfl, zt_go hE hP hS zt_id hU hW⟩⟩ rfl rfl hl.1 rfl (lv_room (Nat.le_of_ble_eq_true rfl)) dX9_bringUp_81 ⟨Nat.zero_le _, Nat.zero_le _⟩) hS (fun _ _ h => h) (fun _ h => h) (fun r u t H locs ht hvm hw hB _ _ hS => ?_)
      rw [hw.1]; have hB : zt_B G u t := hB; rw [hw.2] at hB; have hP := zt_B.P hB ht
      refine lv_aload_n hx hb dX9_bringUp_84 rfl (lv_at hl 1 rfl) ?_
      refine lv_bipush (v := 6) hx hb dX9_bringUp_85 (by decide +kernel) ?_
      refine lv_iload_n hx hb dX9_bringUp_87 rfl (lv_at hl 2 rfl) ?_
      refine lv_iadd hx hb dX9_bringUp_88 ?_
      refine lv_iload_n hx hb dX9_bringUp_89 rfl (lv_at hl 2 rfl) ?_
      obtain ⟨v19, hvv19, hf⟩ := zt_bd_some hf
      refine va_calli (va_runV (As := [.int (6 + u1), .int u1]) (rest := [.int v17]) ⟨hx, hb, hml, hown, hts⟩ (m_X9_unlike l G (σ := σ) hvv19) (cwV 2 hts gX9_bringUp_X9_unlike rfl rfl rfl zh_X9_unlike ⟨Nat.le_of_ble_eq_true rfl, Nat.le_of_ble_eq_true rfl⟩) ⟨zt_blind, va_recv hK hP (ci := 8) (q0 := 94) rfl (zt_a8 (rfl : zt_kd 94 = 8)), fun U hU hW => ⟨rfl, zt_go hE hP hS zt_id hU hW⟩⟩ rfl rfl hl.1 rfl (lv_room (Nat.le_of_ble_eq_true rfl)) dX9_bringUp_90 ⟨Nat.zero_le _, Nat.zero_le _⟩) hS (fun _ _ h => h) (fun _ h => h) (fun r u t H locs ht hvm hw hB _ _ hS => ?_)
      rw [hw.1]; have hB : zt_B G u t := hB; rw [hw.2] at hB; have hP := zt_B.P hB ht
      refine lv_iadd hx hb dX9_bringUp_93 ?_
      refine lv_goto (tgt := 103) hx hb dX9_bringUp_94 (by decide) ?_
      exact B103 σ (v17 + v19) u1 _ _ _ hf hP hS (lv_sub hl [1, 2] rfl)
  have B69 : ∀ (σ : zt_St) (u1 : Int32) (H : Heap) (locs : List Loc) (ls : Array Slot), f_X9_bringUp_69 σ u1 = some (r, σ1) → va_P (zt_D G) vwCl (zt_ww G σ) H → va_S (zt_A G) s.heap H locs → lv_has ls 5 [(0, .ref (zt_ad G 94)), (1, .int u1)] → W p l e (zt_R 2 49) s m ([.ref (zt_ad G 94), .int x1] : List Value).toArray below meth c H locs 0 0 (MQ below (zt_Ci G r σ1) ([.ref (zt_ad G 94), .int x1] : List Value).toArray s 0 0 (zt_A G)) (F0 m 69 ls []) := by
    intro σ u1 H locs ls hf hP hS hl
    unfold f_X9_bringUp_69 at hf
    refine lv_iconst (v := 0) hx hb dX9_bringUp_69 (by decide) ?_
    exact B70 σ 0 u1 _ _ _ hf hP hS (lv_sub hl [0, 1] rfl)
  have B50 : ∀ (σ : zt_St) (u1 : Int32) (u2 : Int32) (H : Heap) (locs : List Loc) (ls : Array Slot), f_X9_bringUp_50 σ u1 u2 = some (r, σ1) → va_P (zt_D G) vwCl (zt_ww G σ) H → va_S (zt_A G) s.heap H locs → lv_has ls 5 [(0, .ref (zt_ad G 94)), (1, .int u1), (2, .int u2)] → W p l e (zt_R 2 49) s m ([.ref (zt_ad G 94), .int x1] : List Value).toArray below meth c H locs 0 0 (MQ below (zt_Ci G r σ1) ([.ref (zt_ad G 94), .int x1] : List Value).toArray s 0 0 (zt_A G)) (F0 m 50 ls []) := by
    intro σ u1 u2 H locs ls hf hP hS hl
    unfold f_X9_bringUp_50 at hf
    refine lv_aload_n hx hb dX9_bringUp_50 rfl (lv_at hl 0 rfl) ?_
    refine va_get (D := zt_D G) (ci := 8) (v := .ref (zt_ad G 98)) (C := RX9) (T := TX9) (N := 37) hx hb hts inX9 hown hK hP 94 (zt_a8 (rfl : zt_kd 94 = 8)) rfl 6 (by decide) fl23 (fun _ h9 => h9) rfl dX9_bringUp_51 ?_
    refine lv_iload_n hx hb dX9_bringUp_54 rfl (lv_at hl 1 rfl) ?_
    obtain ⟨g12, hf⟩ := zt_gd_some hf
    refine va_iald hx hb hK hP 98 0 zt_a_98 rfl (zt_gI_in g12) dX9_bringUp_55 ?_
    refine lv_iconst (v := (-1)) hx hb dX9_bringUp_56 (by decide) ?_
    refine lv_icmp_eq (tgt := 69) hx hb dX9_bringUp_57 (by decide) (fun c13 => ?_) (fun c13 => ?_)
    · have hf := (if_pos c13).symm.trans hf
      exact B69 σ u1 _ _ _ hf hP hS (lv_sub hl [0, 1] rfl)
    · have hf := (if_neg c13).symm.trans hf
      refine lv_iload_n hx hb dX9_bringUp_60 rfl (lv_at hl 2 rfl) ?_
      refine lv_iconst (v := 4) hx hb dX9_bringUp_61 (by decide) ?_
      refine lv_icmp_gt (tgt := 69) hx hb dX9_bringUp_62 (by decide) (fun c14 => ?_) (fun c14 => ?_)
      · have hf := (if_pos c14).symm.trans hf
        exact B69 σ u1 _ _ _ hf hP hS (lv_sub hl [0, 1] rfl)
      · have hf := (if_neg c14).symm.trans hf
        refine lv_iconst (v := 1) hx hb dX9_bringUp_65 (by decide) ?_
        refine lv_goto (tgt := 70) hx hb dX9_bringUp_66 (by decide) ?_
        exact B70 σ 1 u1 _ _ _ hf hP hS (lv_sub hl [0, 1] rfl)
  unfold f_X9_bringUp at hf
  refine lv_aload_n hx hb dX9_bringUp_0 rfl (lv_at hl 0 rfl) ?_
  refine lv_aload_n hx hb dX9_bringUp_1 rfl (lv_at hl 0 rfl) ?_
  refine lv_iload_n hx hb dX9_bringUp_2 rfl (lv_at hl 1 rfl) ?_
  obtain ⟨v1, hvv1, hf⟩ := zt_bd_some hf
  refine va_calli (va_runV (As := [.int x1]) (rest := [.ref (zt_ad G 94)]) ⟨hx, hb, hml, hown, hts⟩ (m_X9_isZone l G (σ := σ) hvv1) (cwV 1 hts gX9_bringUp_X9_isZone rfl rfl rfl zh_X9_isZone ⟨Nat.le_of_ble_eq_true rfl, Nat.le_of_ble_eq_true rfl⟩) ⟨zt_blind, va_recv hK hP (ci := 8) (q0 := 94) rfl (zt_a8 (rfl : zt_kd 94 = 8)), fun U hU hW => ⟨rfl, zt_go hE hP hS zt_id hU hW⟩⟩ rfl rfl hl.1 rfl (lv_room (Nat.le_of_ble_eq_true rfl)) dX9_bringUp_3 ⟨Nat.zero_le _, Nat.zero_le _⟩) hS (fun _ _ h => h) (fun _ h => h) (fun r u t H locs ht hvm hw hB _ _ hS => ?_)
  rw [hw.1]; have hB : zt_B G u t := hB; rw [hw.2] at hB; have hP := zt_B.P hB ht
  obtain ⟨⟨v3a, σ4a⟩, hvv3, hf⟩ := zt_bd_some hf
  obtain ⟨v3, hv3, hf⟩ := zt_lt_some hf; obtain ⟨σ4, hσ4, hf⟩ := zt_lt_some hf; rw [show (v3a, σ4a) = (v3, σ4) from by rw [hv3, hσ4]] at hvv3
  refine va_calli (va_runV (As := [.int v1]) (rest := []) ⟨hx, hb, hml, hown, hts⟩ (m_X9_asked l G (σ := σ) hvv3) (cwV 1 hts gX9_bringUp_X9_asked rfl rfl rfl zh_X9_asked ⟨Nat.le_of_ble_eq_true rfl, Nat.le_of_ble_eq_true rfl⟩) ⟨zt_blind, va_recv hK hP (ci := 8) (q0 := 94) rfl (zt_a8 (rfl : zt_kd 94 = 8)), fun U hU hW => ⟨rfl, zt_go hE hP hS zt_id hU hW⟩⟩ rfl rfl hl.1 rfl (lv_room (Nat.le_of_ble_eq_true rfl)) dX9_bringUp_6 ⟨Nat.zero_le _, Nat.zero_le _⟩) hS (fun _ _ h => h) (fun _ h => h) (fun r u t H locs ht hvm hw hB _ _ hS => ?_)
  rw [hw.1]; have hB : zt_B G u t := hB; rw [hw.2] at hB; have hP := zt_B.P hB ht
  refine lv_if_ne (tgt := 14) hx hb dX9_bringUp_9 (by decide) (fun c6 => ?_) (fun c6 => ?_)
  · have hf := (if_neg c6).symm.trans hf
    refine lv_aload_n hx hb dX9_bringUp_14 rfl (lv_at hl 0 rfl) ?_
    refine va_get (D := zt_D G) (ci := 8) (v := .ref (zt_ad G 97)) (C := RX9) (T := TX9) (N := 37) hx hb hts inX9 hown hK hP 94 (zt_a8 (rfl : zt_kd 94 = 8)) rfl 5 (by decide) fl20 (fun _ h9 => h9) rfl dX9_bringUp_15 ?_
    refine lv_iload_n hx hb dX9_bringUp_18 rfl (lv_at hl 1 rfl) ?_
    obtain ⟨g7, hf⟩ := zt_gd_some hf
    refine va_iald hx hb hK hP 97 0 zt_a_97 rfl (zt_gI_in g7) dX9_bringUp_19 ?_
    refine lv_aload_n hx hb dX9_bringUp_20 rfl (lv_at hl 0 rfl) ?_
    refine va_get (D := zt_D G) (ci := 8) (v := .ref (zt_ad G 98)) (C := RX9) (T := TX9) (N := 37) hx hb hts inX9 hown hK hP 94 (zt_a8 (rfl : zt_kd 94 = 8)) rfl 6 (by decide) fl23 (fun _ h9 => h9) rfl dX9_bringUp_21 ?_
    refine lv_iload_n hx hb dX9_bringUp_24 rfl (lv_at hl 1 rfl) ?_
    obtain ⟨g8, hf⟩ := zt_gd_some hf
    refine va_iald hx hb hK hP 98 0 zt_a_98 rfl (zt_gI_in g8) dX9_bringUp_25 ?_
    refine lv_isub hx hb dX9_bringUp_26 ?_
    refine lv_bipush (v := 16) hx hb dX9_bringUp_27 (by decide +kernel) ?_
    refine lv_iadd hx hb dX9_bringUp_29 ?_
    refine lv_bipush (v := 16) hx hb dX9_bringUp_30 (by decide +kernel) ?_
    refine lv_irem hx hb dX9_bringUp_32 (by decide) ?_
    refine lv_istore_n (lv' := [(2, .int ((((σ4 97 x1.toNatClampNeg) - (σ4 98 x1.toNatClampNeg)) + 16) - (((σ4 97 x1.toNatClampNeg) - (σ4 98 x1.toNatClampNeg)) + 16) / 16 * 16)), (0, .ref (zt_ad G 94)), (1, .int x1)]) hx hb dX9_bringUp_33 rfl hl (by decide) rfl (fun ls hl => ?_)
    refine lv_aload_n hx hb dX9_bringUp_34 rfl (lv_at hl 1 rfl) ?_
    refine va_get (D := zt_D G) (ci := 8) (v := .ref (zt_ad G 98)) (C := RX9) (T := TX9) (N := 37) hx hb hts inX9 hown hK hP 94 (zt_a8 (rfl : zt_kd 94 = 8)) rfl 6 (by decide) fl23 (fun _ h9 => h9) rfl dX9_bringUp_35 ?_
    refine lv_iload_n hx hb dX9_bringUp_38 rfl (lv_at hl 2 rfl) ?_
    obtain ⟨g9, hf⟩ := zt_gd_some hf
    refine va_iald hx hb hK hP 98 0 zt_a_98 rfl (zt_gI_in g9) dX9_bringUp_39 ?_
    refine lv_iconst (v := (-1)) hx hb dX9_bringUp_40 (by decide) ?_
    refine lv_icmp_eq (tgt := 50) hx hb dX9_bringUp_41 (by decide) (fun c10 => ?_) (fun c10 => ?_)
    · have hf := (if_pos c10).symm.trans hf
      exact B50 σ4 x1 ((((σ4 97 x1.toNatClampNeg) - (σ4 98 x1.toNatClampNeg)) + 16) - (((σ4 97 x1.toNatClampNeg) - (σ4 98 x1.toNatClampNeg)) + 16) / 16 * 16) _ _ _ hf hP hS (lv_sub hl [1, 2, 0] rfl)
    · have hf := (if_neg c10).symm.trans hf
      refine lv_iload_n hx hb dX9_bringUp_44 rfl (lv_at hl 0 rfl) ?_
      refine lv_if_ne (tgt := 50) hx hb dX9_bringUp_45 (by decide) (fun c11 => ?_) (fun c11 => ?_)
      · have hf := (if_neg c11).symm.trans hf
        exact B50 σ4 x1 ((((σ4 97 x1.toNatClampNeg) - (σ4 98 x1.toNatClampNeg)) + 16) - (((σ4 97 x1.toNatClampNeg) - (σ4 98 x1.toNatClampNeg)) + 16) / 16 * 16) _ _ _ hf hP hS (lv_sub hl [1, 2, 0] rfl)
      · have hf := (if_pos c11).symm.trans hf
        refine lv_iconst (v := 0) hx hb dX9_bringUp_48 (by decide) ?_
        exact W.iret hx hb hr (fun t ht hW => ⟨⟨_, _, rfl, (Prod.mk.inj (Option.some.inj hf)), zt_go hE hP hS zt_id ht hW⟩, hS.F ht⟩) hS.2.2 dX9_bringUp_49
  · have hf := (if_pos c6).symm.trans hf
    refine lv_iconst (v := 0) hx hb dX9_bringUp_12 (by decide) ?_
    exact W.iret hx hb hr (fun t ht hW => ⟨⟨_, _, rfl, (Prod.mk.inj (Option.some.inj hf)), zt_go hE hP hS zt_id ht hW⟩, hS.F ht⟩) hS.2.2 dX9_bringUp_13

theorem zh_X9_setDead : yX9_setDead.cls = RX9 ∧ yX9_setDead.cls ≠ "java/lang/invoke/MethodHandle" ∧ yX9_setDead.cls ≠ "java/lang/invoke/VarHandle" ∧ (parseMethodDescriptor yX9_setDead.desc).map (fun d => d.parameters.length) = some 2 := by decide +kernel
set_option maxHeartbeats 4000000 in
set_option maxRecDepth 100000 in
theorem m_X9_setDead (l : Launch) (G : zt_G) {σ : zt_St} {x1 : Int32} {x2 : Int32} {σ1 : zt_St} (hf : f_X9_setDead σ x1 x2 = some σ1) : zt_Mv l G yX9_setDead wsX9_setDead 2 43 [.ref (zt_ad G 94), .int x1, .int x2] σ σ1 := by
  refine Met.ofW (cc := cX9_setDead) (maxL := 3) (ret := none) (by decide) rfl ?_
  intro p e s m args below meth c s₁ B hml hv
  obtain ⟨rfl, hBB⟩ := hv
  have hE := zt_B.env hBB; have hK := hE.2.1; have hP := hBB.2.1
  have hx := B.exec; have hb := B.bytes; have hr := B.returns; have hts := atoms_spec (ws := wsX9_setDead) B.pre
  have hown : s.vm.findClass RX9 = some m.cls := findClass_of_methodNamed B.named
  have hlocks := B.notSynchronized
  have hS : va_S (zt_A G) s.heap s.heap [] := va_S.rf
  have hl := lv_entry ([.ref (zt_ad G 94), .int x1, .int x2]) (n := 3) (Nat.le_of_ble_eq_true rfl)
  rw [lg_entry_eq]
  generalize (lg_sl ([.ref (zt_ad G 94), .int x1, .int x2]) ++ List.replicate (3 - (lg_sl ([.ref (zt_ad G 94), .int x1, .int x2])).length) Slot.unset).toArray = ls at hl ⊢
  have hl : lv_has ls 3 [(0, .ref (zt_ad G 94)), (1, .int x1), (2, .int x2)] := hl
  show W p l e (zt_R 2 43) s m ([.ref (zt_ad G 94), .int x1, .int x2] : List Value).toArray below meth c s.heap [] 0 0 (MQ below (zt_Cv G σ1) ([.ref (zt_ad G 94), .int x1, .int x2] : List Value).toArray s 0 0 (zt_A G)) (F0 m 0 ls [])
  have fl26 := hts (.fieldLink RX9 26 "ZoneTreeModel" "dead" "[Z") (List.mem_cons_of_mem _ (List.mem_append_left _ (List.mem_of_getElem? (i := 0) rfl)))
  have inX9 : ∀ w ∈ wsX90, w ∈ wsX9_setDead := fun w h => (List.mem_cons_of_mem _ (List.mem_append_right _ h))
  unfold f_X9_setDead at hf
  refine lv_aload_n hx hb dX9_setDead_0 rfl (lv_at hl 0 rfl) ?_
  refine lv_aload_n hx hb dX9_setDead_1 rfl (lv_at hl 0 rfl) ?_
  refine lv_iload_n hx hb dX9_setDead_2 rfl (lv_at hl 1 rfl) ?_
  obtain ⟨v1, hvv1, hf⟩ := zt_bd_some hf
  refine va_calli (va_runV (As := [.int x1]) (rest := [.ref (zt_ad G 94)]) ⟨hx, hb, hml, hown, hts⟩ (m_X9_isZone l G (σ := σ) hvv1) (cwV 1 hts gX9_setDead_X9_isZone rfl rfl rfl zh_X9_isZone ⟨Nat.le_of_ble_eq_true rfl, Nat.le_of_ble_eq_true rfl⟩) ⟨zt_blind, va_recv hK hP (ci := 8) (q0 := 94) rfl (zt_a8 (rfl : zt_kd 94 = 8)), fun U hU hW => ⟨rfl, zt_go hE hP hS zt_id hU hW⟩⟩ rfl rfl hl.1 rfl (lv_room (Nat.le_of_ble_eq_true rfl)) dX9_setDead_3 ⟨Nat.zero_le _, Nat.zero_le _⟩) hS (fun _ _ h => h) (fun _ h => h) (fun r u t H locs ht hvm hw hB _ _ hS => ?_)
  rw [hw.1]; have hB : zt_B G u t := hB; rw [hw.2] at hB; have hP := zt_B.P hB ht
  obtain ⟨⟨v3a, σ4a⟩, hvv3, hf⟩ := zt_bd_some hf
  obtain ⟨v3, hv3, hf⟩ := zt_lt_some hf; obtain ⟨σ4, hσ4, hf⟩ := zt_lt_some hf; rw [show (v3a, σ4a) = (v3, σ4) from by rw [hv3, hσ4]] at hvv3
  refine va_calli (va_runV (As := [.int v1]) (rest := []) ⟨hx, hb, hml, hown, hts⟩ (m_X9_asked l G (σ := σ) hvv3) (cwV 1 hts gX9_setDead_X9_asked rfl rfl rfl zh_X9_asked ⟨Nat.le_of_ble_eq_true rfl, Nat.le_of_ble_eq_true rfl⟩) ⟨zt_blind, va_recv hK hP (ci := 8) (q0 := 94) rfl (zt_a8 (rfl : zt_kd 94 = 8)), fun U hU hW => ⟨rfl, zt_go hE hP hS zt_id hU hW⟩⟩ rfl rfl hl.1 rfl (lv_room (Nat.le_of_ble_eq_true rfl)) dX9_setDead_6 ⟨Nat.zero_le _, Nat.zero_le _⟩) hS (fun _ _ h => h) (fun _ h => h) (fun r u t H locs ht hvm hw hB _ _ hS => ?_)
  rw [hw.1]; have hB : zt_B G u t := hB; rw [hw.2] at hB; have hP := zt_B.P hB ht
  refine lv_if_eq (tgt := 19) hx hb dX9_setDead_9 (by decide) (fun c6 => ?_) (fun c6 => ?_)
  · have hf := (if_pos c6).symm.trans hf
    exact W.vret hx hb hr (fun t ht hW => ⟨⟨_, rfl, (Option.some.inj hf), zt_go hE hP hS zt_id ht hW⟩, hS.F ht⟩) hS.2.2 dX9_setDead_19
  · have hf := (if_neg c6).symm.trans hf
    refine lv_aload_n hx hb dX9_setDead_12 rfl (lv_at hl 0 rfl) ?_
    refine va_get (D := zt_D G) (ci := 8) (v := .ref (zt_ad G 99)) (C := RX9) (T := TX9) (N := 37) hx hb hts inX9 hown hK hP 94 (zt_a8 (rfl : zt_kd 94 = 8)) rfl 7 (by decide) fl26 (fun _ h9 => h9) rfl dX9_setDead_13 ?_
    refine lv_iload_n hx hb dX9_setDead_16 rfl (lv_at hl 1 rfl) ?_
    refine lv_iload_n hx hb dX9_setDead_17 rfl (lv_at hl 2 rfl) ?_
    obtain ⟨g7, hf⟩ := zt_gd_some hf
    obtain ⟨g8, hf⟩ := zt_gd_some hf
    obtain ⟨σ9, hσ9, hf⟩ := zt_lt_some hf
    refine va_zast hx hb hK hP (zt_apart hE.1) hS 99 1 zt_a_99 rfl (zt_gI_in g7) dX9_setDead_18 (fun H locs hP _ hS => ?_)
    rw [zt_bv g8, zt_p_99, ← hσ9] at hP
    exact W.vret hx hb hr (fun t ht hW => ⟨⟨_, rfl, (Option.some.inj hf), zt_go hE hP hS zt_id ht hW⟩, hS.F ht⟩) hS.2.2 dX9_setDead_19

theorem zh_X9_least : yX9_least.cls = RX9 ∧ yX9_least.cls ≠ "java/lang/invoke/MethodHandle" ∧ yX9_least.cls ≠ "java/lang/invoke/VarHandle" ∧ (parseMethodDescriptor yX9_least.desc).map (fun d => d.parameters.length) = some 2 := by decide +kernel
set_option maxHeartbeats 4000000 in
set_option maxRecDepth 100000 in
theorem m_X9_least (l : Launch) (G : zt_G) {σ : zt_St} {x1 : Int32} {x2 : Int32} {r : Int32} (hf : f_X9_least x1 x2 = some r) : zt_Mi l G yX9_least wsX9_least 0 0 [.ref (zt_ad G 94), .int x1, .int x2] σ r σ := by
  refine Met.ofW (cc := cX9_least) (maxL := 3) (ret := (some .int)) (by decide) rfl ?_
  intro p e s m args below meth c s₁ B hml hv
  obtain ⟨rfl, hBB⟩ := hv
  have hE := zt_B.env hBB; have hK := hE.2.1; have hP := hBB.2.1
  have hx := B.exec; have hb := B.bytes; have hr := B.returns; have hts := atoms_spec (ws := wsX9_least) B.pre
  have hown : s.vm.findClass RX9 = some m.cls := findClass_of_methodNamed B.named
  have hlocks := B.notSynchronized
  have hS : va_S (zt_A G) s.heap s.heap [] := va_S.rf
  have hl := lv_entry ([.ref (zt_ad G 94), .int x1, .int x2]) (n := 3) (Nat.le_of_ble_eq_true rfl)
  rw [lg_entry_eq]
  generalize (lg_sl ([.ref (zt_ad G 94), .int x1, .int x2]) ++ List.replicate (3 - (lg_sl ([.ref (zt_ad G 94), .int x1, .int x2])).length) Slot.unset).toArray = ls at hl ⊢
  have hl : lv_has ls 3 [(0, .ref (zt_ad G 94)), (1, .int x1), (2, .int x2)] := hl
  show W p l e (zt_R 0 0) s m ([.ref (zt_ad G 94), .int x1, .int x2] : List Value).toArray below meth c s.heap [] 0 0 (MQ below (zt_Ci G r σ) ([.ref (zt_ad G 94), .int x1, .int x2] : List Value).toArray s 0 0 (zt_A G)) (F0 m 0 ls [])
  unfold f_X9_least at hf
  refine lv_iload_n hx hb dX9_least_0 rfl (lv_at hl 1 rfl) ?_
  refine lv_iload_n hx hb dX9_least_1 rfl (lv_at hl 2 rfl) ?_
  refine lv_icmp_ge (tgt := 9) hx hb dX9_least_2 (by decide) (fun c1 => ?_) (fun c1 => ?_)
  · have hf := (if_pos c1).symm.trans hf
    refine lv_iload_n hx hb dX9_least_9 rfl (lv_at hl 2 rfl) ?_
    exact W.iret hx hb hr (fun t ht hW => ⟨⟨_, _, rfl, ⟨Option.some.inj hf, rfl⟩, zt_go hE hP hS zt_id ht hW⟩, hS.F ht⟩) hS.2.2 dX9_least_10
  · have hf := (if_neg c1).symm.trans hf
    refine lv_iload_n hx hb dX9_least_5 rfl (lv_at hl 1 rfl) ?_
    refine lv_goto (tgt := 10) hx hb dX9_least_6 (by decide) ?_
    exact W.iret hx hb hr (fun t ht hW => ⟨⟨_, _, rfl, ⟨Option.some.inj hf, rfl⟩, zt_go hE hP hS zt_id ht hW⟩, hS.F ht⟩) hS.2.2 dX9_least_10

theorem zh_X9_cutAbove : yX9_cutAbove.cls = RX9 ∧ yX9_cutAbove.cls ≠ "java/lang/invoke/MethodHandle" ∧ yX9_cutAbove.cls ≠ "java/lang/invoke/VarHandle" ∧ (parseMethodDescriptor yX9_cutAbove.desc).map (fun d => d.parameters.length) = some 2 := by decide +kernel
set_option maxHeartbeats 4000000 in
set_option maxRecDepth 100000 in
theorem m_X9_cutAbove (l : Launch) (G : zt_G) {σ : zt_St} {x1 : Int32} {x2 : Int32} {r : Int32} (hf : f_X9_cutAbove σ x1 x2 = some r) : zt_Mi l G yX9_cutAbove wsX9_cutAbove 3 65 [.ref (zt_ad G 94), .int x1, .int x2] σ r σ := by
  refine Met.ofW (cc := cX9_cutAbove) (maxL := 6) (ret := (some .int)) (by decide) rfl ?_
  intro p e s m args below meth c s₁ B hml hv
  obtain ⟨rfl, hBB⟩ := hv
  have hE := zt_B.env hBB; have hK := hE.2.1; have hP := hBB.2.1
  have hx := B.exec; have hb := B.bytes; have hr := B.returns; have hts := atoms_spec (ws := wsX9_cutAbove) B.pre
  have hown : s.vm.findClass RX9 = some m.cls := findClass_of_methodNamed B.named
  have hlocks := B.notSynchronized
  have hS : va_S (zt_A G) s.heap s.heap [] := va_S.rf
  have hl := lv_entry ([.ref (zt_ad G 94), .int x1, .int x2]) (n := 6) (Nat.le_of_ble_eq_true rfl)
  rw [lg_entry_eq]
  generalize (lg_sl ([.ref (zt_ad G 94), .int x1, .int x2]) ++ List.replicate (6 - (lg_sl ([.ref (zt_ad G 94), .int x1, .int x2])).length) Slot.unset).toArray = ls at hl ⊢
  have hl : lv_has ls 6 [(0, .ref (zt_ad G 94)), (1, .int x1), (2, .int x2)] := hl
  show W p l e (zt_R 3 65) s m ([.ref (zt_ad G 94), .int x1, .int x2] : List Value).toArray below meth c s.heap [] 0 0 (MQ below (zt_Ci G r σ) ([.ref (zt_ad G 94), .int x1, .int x2] : List Value).toArray s 0 0 (zt_A G)) (F0 m 0 ls [])
  have fl42 := hts (.fieldLink RX9 42 "ZoneTreeModel" "many" "[I") (List.mem_cons_of_mem _ (List.mem_append_left _ (List.mem_of_getElem? (i := 0) rfl)))
  have fl45 := hts (.fieldLink RX9 45 "ZoneTreeModel" "name" "[I") (List.mem_cons_of_mem _ (List.mem_append_left _ (List.mem_of_getElem? (i := 2) rfl)))
  have fl48 := hts (.fieldLink RX9 48 "ZoneTreeModel" "sort" "[I") (List.mem_cons_of_mem _ (List.mem_append_left _ (List.mem_of_getElem? (i := 1) rfl)))
  have inX9 : ∀ w ∈ wsX90, w ∈ wsX9_cutAbove := fun w h => (List.mem_cons_of_mem _ (List.mem_append_right _ h))
  have B94 : ∀ (rc8 : Int32 → Int32 → Int32 → Int32 → Option (Int32)) (hrc8 : ∀ (u1 : Int32) (u2 : Int32) (u3 : Int32) (u4 : Int32) (H : Heap) (locs : List Loc) (ls : Array Slot), rc8 u1 u2 u3 u4 = some r → va_P (zt_D G) vwCl (zt_ww G σ) H → va_S (zt_A G) s.heap H locs → lv_has ls 6 [(0, .ref (zt_ad G 94)), (1, .int u1), (2, .int u2), (3, .int u3), (4, .int u4)] → W p l e (zt_R 3 65) s m ([.ref (zt_ad G 94), .int x1, .int x2] : List Value).toArray below meth c H locs 0 0 (MQ below (zt_Ci G r σ) ([.ref (zt_ad G 94), .int x1, .int x2] : List Value).toArray s 0 0 (zt_A G)) (F0 m 8 ls [])), ∀ (y0 : Int32) (u1 : Int32) (u2 : Int32) (u4 : Int32) (H : Heap) (locs : List Loc) (ls : Array Slot), f_X9_cutAbove_94 σ rc8 y0 u1 u2 u4 = some r → va_P (zt_D G) vwCl (zt_ww G σ) H → va_S (zt_A G) s.heap H locs → lv_has ls 6 [(0, .ref (zt_ad G 94)), (1, .int u1), (2, .int u2), (4, .int u4)] → W p l e (zt_R 3 65) s m ([.ref (zt_ad G 94), .int x1, .int x2] : List Value).toArray below meth c H locs 0 0 (MQ below (zt_Ci G r σ) ([.ref (zt_ad G 94), .int x1, .int x2] : List Value).toArray s 0 0 (zt_A G)) (F0 m 94 ls [.int y0]) := by
    intro rc8 hrc8 y0 u1 u2 u4 H locs ls hf hP hS hl
    unfold f_X9_cutAbove_94 at hf
    refine lv_istore_n (lv' := [(3, .int y0), (0, .ref (zt_ad G 94)), (1, .int u1), (2, .int u2), (4, .int u4)]) hx hb dX9_cutAbove_94 rfl hl (by decide) rfl (fun ls hl => ?_)
    refine lv_iinc (v := (u4 + 1)) (lv' := [(4, .int (u4 + 1)), (3, .int y0), (0, .ref (zt_ad G 94)), (1, .int u1), (2, .int u2)]) hx hb dX9_cutAbove_95 hl (k := 4) rfl rfl (by decide) rfl (fun ls hl => ?_)
    refine lv_goto (tgt := 8) hx hb dX9_cutAbove_98 (by decide) ?_
    exact hrc8 u1 u2 y0 (u4 + 1) _ _ _ hf hP hS (lv_sub hl [2, 3, 4, 1, 0] rfl)
  have B93 : ∀ (rc8 : Int32 → Int32 → Int32 → Int32 → Option (Int32)) (hrc8 : ∀ (u1 : Int32) (u2 : Int32) (u3 : Int32) (u4 : Int32) (H : Heap) (locs : List Loc) (ls : Array Slot), rc8 u1 u2 u3 u4 = some r → va_P (zt_D G) vwCl (zt_ww G σ) H → va_S (zt_A G) s.heap H locs → lv_has ls 6 [(0, .ref (zt_ad G 94)), (1, .int u1), (2, .int u2), (3, .int u3), (4, .int u4)] → W p l e (zt_R 3 65) s m ([.ref (zt_ad G 94), .int x1, .int x2] : List Value).toArray below meth c H locs 0 0 (MQ below (zt_Ci G r σ) ([.ref (zt_ad G 94), .int x1, .int x2] : List Value).toArray s 0 0 (zt_A G)) (F0 m 8 ls [])), ∀ (u1 : Int32) (u2 : Int32) (u3 : Int32) (u4 : Int32) (H : Heap) (locs : List Loc) (ls : Array Slot), f_X9_cutAbove_93 σ rc8 u1 u2 u3 u4 = some r → va_P (zt_D G) vwCl (zt_ww G σ) H → va_S (zt_A G) s.heap H locs → lv_has ls 6 [(0, .ref (zt_ad G 94)), (1, .int u1), (2, .int u2), (3, .int u3), (4, .int u4)] → W p l e (zt_R 3 65) s m ([.ref (zt_ad G 94), .int x1, .int x2] : List Value).toArray below meth c H locs 0 0 (MQ below (zt_Ci G r σ) ([.ref (zt_ad G 94), .int x1, .int x2] : List Value).toArray s 0 0 (zt_A G)) (F0 m 93 ls []) := by
    intro rc8 hrc8 u1 u2 u3 u4 H locs ls hf hP hS hl
    unfold f_X9_cutAbove_93 at hf
    refine lv_iload_n hx hb dX9_cutAbove_93 rfl (lv_at hl 3 rfl) ?_
    exact B94 rc8 hrc8 u3 u1 u2 u4 _ _ _ hf hP hS (lv_sub hl [0, 1, 2, 4] rfl)
  have B88 : ∀ (rc8 : Int32 → Int32 → Int32 → Int32 → Option (Int32)) (hrc8 : ∀ (u1 : Int32) (u2 : Int32) (u3 : Int32) (u4 : Int32) (H : Heap) (locs : List Loc) (ls : Array Slot), rc8 u1 u2 u3 u4 = some r → va_P (zt_D G) vwCl (zt_ww G σ) H → va_S (zt_A G) s.heap H locs → lv_has ls 6 [(0, .ref (zt_ad G 94)), (1, .int u1), (2, .int u2), (3, .int u3), (4, .int u4)] → W p l e (zt_R 3 65) s m ([.ref (zt_ad G 94), .int x1, .int x2] : List Value).toArray below meth c H locs 0 0 (MQ below (zt_Ci G r σ) ([.ref (zt_ad G 94), .int x1, .int x2] : List Value).toArray s 0 0 (zt_A G)) (F0 m 8 ls [])), ∀ (u1 : Int32) (u2 : Int32) (u4 : Int32) (H : Heap) (locs : List Loc) (ls : Array Slot), f_X9_cutAbove_88 σ rc8 u1 u2 u4 = some r → va_P (zt_D G) vwCl (zt_ww G σ) H → va_S (zt_A G) s.heap H locs → lv_has ls 6 [(0, .ref (zt_ad G 94)), (1, .int u1), (2, .int u2), (4, .int u4)] → W p l e (zt_R 3 65) s m ([.ref (zt_ad G 94), .int x1, .int x2] : List Value).toArray below meth c H locs 0 0 (MQ below (zt_Ci G r σ) ([.ref (zt_ad G 94), .int x1, .int x2] : List Value).toArray s 0 0 (zt_A G)) (F0 m 88 ls []) := by
    intro rc8 hrc8 u1 u2 u4 H locs ls hf hP hS hl
    unfold f_X9_cutAbove_88 at hf
    refine lv_iload hx hb dX9_cutAbove_88 (lv_at hl 3 rfl) ?_
    refine lv_goto (tgt := 94) hx hb dX9_cutAbove_90 (by decide) ?_
    exact B94 rc8 hrc8 u4 u1 u2 u4 _ _ _ hf hP hS (lv_sub hl [0, 1, 2, 3] rfl)
  have B54 : ∀ (rc8 : Int32 → Int32 → Int32 → Int32 → Option (Int32)) (hrc8 : ∀ (u1 : Int32) (u2 : Int32) (u3 : Int32) (u4 : Int32) (H : Heap) (locs : List Loc) (ls : Array Slot), rc8 u1 u2 u3 u4 = some r → va_P (zt_D G) vwCl (zt_ww G σ) H → va_S (zt_A G) s.heap H locs → lv_has ls 6 [(0, .ref (zt_ad G 94)), (1, .int u1), (2, .int u2), (3, .int u3), (4, .int u4)] → W p l e (zt_R 3 65) s m ([.ref (zt_ad G 94), .int x1, .int x2] : List Value).toArray below meth c H locs 0 0 (MQ below (zt_Ci G r σ) ([.ref (zt_ad G 94), .int x1, .int x2] : List Value).toArray s 0 0 (zt_A G)) (F0 m 8 ls [])), ∀ (y0 : Int32) (u1 : Int32) (u2 : Int32) (u3 : Int32) (u4 : Int32) (H : Heap) (locs : List Loc) (ls : Array Slot), f_X9_cutAbove_54 σ rc8 y0 u1 u2 u3 u4 = some r → va_P (zt_D G) vwCl (zt_ww G σ) H → va_S (zt_A G) s.heap H locs → lv_has ls 6 [(0, .ref (zt_ad G 94)), (1, .int u1), (2, .int u2), (3, .int u3), (4, .int u4)] → W p l e (zt_R 3 65) s m ([.ref (zt_ad G 94), .int x1, .int x2] : List Value).toArray below meth c H locs 0 0 (MQ below (zt_Ci G r σ) ([.ref (zt_ad G 94), .int x1, .int x2] : List Value).toArray s 0 0 (zt_A G)) (F0 m 54 ls [.int y0]) := by
    intro rc8 hrc8 y0 u1 u2 u3 u4 H locs ls hf hP hS hl
    unfold f_X9_cutAbove_54 at hf
    refine lv_istore (lv' := [(5, .int y0), (0, .ref (zt_ad G 94)), (1, .int u1), (2, .int u2), (3, .int u3), (4, .int u4)]) hx hb dX9_cutAbove_54 hl (by decide) rfl (fun ls hl => ?_)
    refine lv_iload hx hb dX9_cutAbove_56 (lv_at hl 0 rfl) ?_
    refine lv_if_eq (tgt := 93) hx hb dX9_cutAbove_58 (by decide) (fun c9 => ?_) (fun c9 => ?_)
    · have hf := (if_pos c9).symm.trans hf
      exact B93 rc8 hrc8 u1 u2 u3 u4 _ _ _ hf hP hS (lv_sub hl [1, 2, 3, 4, 5] rfl)
    · have hf := (if_neg c9).symm.trans hf
      refine lv_iload_n hx hb dX9_cutAbove_61 rfl (lv_at hl 4 rfl) ?_
      refine lv_iconst (v := (-1)) hx hb dX9_cutAbove_62 (by decide) ?_
      refine lv_icmp_eq (tgt := 88) hx hb dX9_cutAbove_63 (by decide) (fun c10 => ?_) (fun c10 => ?_)
      · have hf := (if_pos c10).symm.trans hf
        exact B88 rc8 hrc8 u1 u2 u4 _ _ _ hf hP hS (lv_sub hl [1, 2, 3, 5] rfl)
      · have hf := (if_neg c10).symm.trans hf
        refine lv_aload_n hx hb dX9_cutAbove_66 rfl (lv_at hl 1 rfl) ?_
        refine va_get (D := zt_D G) (ci := 8) (v := .ref (zt_ad G 104)) (C := RX9) (T := TX9) (N := 37) hx hb hts inX9 hown hK hP 94 (zt_a8 (rfl : zt_kd 94 = 8)) rfl 13 (by decide) fl45 (fun _ h9 => h9) rfl dX9_cutAbove_67 ?_
        refine lv_iload hx hb dX9_cutAbove_70 (lv_at hl 5 rfl) ?_
        obtain ⟨g11, hf⟩ := zt_gd_some hf
        refine va_iald hx hb hK hP 104 0 zt_a_104 rfl (zt_gI_in g11) dX9_cutAbove_72 ?_
        obtain ⟨v12, hvv12, hf⟩ := zt_bd_some hf
        refine va_calli (va_runS (As := [.int (σ 104 u4.toNatClampNeg)]) (rest := []) ⟨hx, hb, hml, hown, hts⟩ (m_X9_figures l G (σ := σ) hvv12) (va_cwS 1 hts gX9_cutAbove_X9_figures rfl rfl rfl zh_X9_figures ⟨Nat.le_of_ble_eq_true rfl, Nat.le_of_ble_eq_true rfl⟩) ⟨zt_blind, fun U hU hW => ⟨rfl, zt_go hE hP hS zt_id hU hW⟩⟩ rfl rfl hl.1 rfl (lv_room (Nat.le_of_ble_eq_true rfl)) dX9_cutAbove_73 ⟨Nat.zero_le _, Nat.zero_le _⟩) hS (fun _ _ h => h) (fun _ h => h) (fun r u t H locs ht hvm hw hB _ _ hS => ?_)
        rw [hw.1]; have hB : zt_B G u t := hB; rw [hw.2] at hB; have hP := zt_B.P hB ht
        refine lv_aload_n hx hb dX9_cutAbove_76 rfl (lv_at hl 1 rfl) ?_
        refine va_get (D := zt_D G) (ci := 8) (v := .ref (zt_ad G 104)) (C := RX9) (T := TX9) (N := 37) hx hb hts inX9 hown hK hP 94 (zt_a8 (rfl : zt_kd 94 = 8)) rfl 13 (by decide) fl45 (fun _ h9 => h9) rfl dX9_cutAbove_77 ?_
        refine lv_iload_n hx hb dX9_cutAbove_80 rfl (lv_at hl 4 rfl) ?_
        obtain ⟨g14, hf⟩ := zt_gd_some hf
        refine va_iald hx hb hK hP 104 0 zt_a_104 rfl (zt_gI_in g14) dX9_cutAbove_81 ?_
        obtain ⟨v15, hvv15, hf⟩ := zt_bd_some hf
        refine va_calli (va_runS (As := [.int (σ 104 u3.toNatClampNeg)]) (rest := [.int v12]) ⟨hx, hb, hml, hown, hts⟩ (m_X9_figures l G (σ := σ) hvv15) (va_cwS 1 hts gX9_cutAbove_X9_figures rfl rfl rfl zh_X9_figures ⟨Nat.le_of_ble_eq_true rfl, Nat.le_of_ble_eq_true rfl⟩) ⟨zt_blind, fun U hU hW => ⟨rfl, zt_go hE hP hS zt_id hU hW⟩⟩ rfl rfl hl.1 rfl (lv_room (Nat.le_of_ble_eq_true rfl)) dX9_cutAbove_82 ⟨Nat.zero_le _, Nat.zero_le _⟩) hS (fun _ _ h => h) (fun _ h => h) (fun r u t H locs ht hvm hw hB _ _ hS => ?_)
        rw [hw.1]; have hB : zt_B G u t := hB; rw [hw.2] at hB; have hP := zt_B.P hB ht
        refine lv_icmp_ge (tgt := 93) hx hb dX9_cutAbove_85 (by decide) (fun c17 => ?_) (fun c17 => ?_)
        · have hf := (if_pos c17).symm.trans hf
          exact B93 rc8 hrc8 u1 u2 u3 u4 _ _ _ hf hP hS (lv_sub hl [1, 2, 3, 4, 5] rfl)
        · have hf := (if_neg c17).symm.trans hf
          exact B88 rc8 hrc8 u1 u2 u4 _ _ _ hf hP hS (lv_sub hl [1, 2, 3, 5] rfl)
  have B53 : ∀ (rc8 : Int32 → Int32 → Int32 → Int32 → Option (Int32)) (hrc8 : ∀ (u1 : Int32) (u2 : Int32) (u3 : Int32) (u4 : Int32) (H : Heap) (locs : List Loc) (ls : Array Slot), rc8 u1 u2 u3 u4 = some r → va_P (zt_D G) vwCl (zt_ww G σ) H → va_S (zt_A G) s.heap H locs → lv_has ls 6 [(0, .ref (zt_ad G 94)), (1, .int u1), (2, .int u2), (3, .int u3), (4, .int u4)] → W p l e (zt_R 3 65) s m ([.ref (zt_ad G 94), .int x1, .int x2] : List Value).toArray below meth c H locs 0 0 (MQ below (zt_Ci G r σ) ([.ref (zt_ad G 94), .int x1, .int x2] : List Value).toArray s 0 0 (zt_A G)) (F0 m 8 ls [])), ∀ (u1 : Int32) (u2 : Int32) (u3 : Int32) (u4 : Int32) (H : Heap) (locs : List Loc) (ls : Array Slot), f_X9_cutAbove_53 σ rc8 u1 u2 u3 u4 = some r → va_P (zt_D G) vwCl (zt_ww G σ) H → va_S (zt_A G) s.heap H locs → lv_has ls 6 [(0, .ref (zt_ad G 94)), (1, .int u1), (2, .int u2), (3, .int u3), (4, .int u4)] → W p l e (zt_R 3 65) s m ([.ref (zt_ad G 94), .int x1, .int x2] : List Value).toArray below meth c H locs 0 0 (MQ below (zt_Ci G r σ) ([.ref (zt_ad G 94), .int x1, .int x2] : List Value).toArray s 0 0 (zt_A G)) (F0 m 53 ls []) := by
    intro rc8 hrc8 u1 u2 u3 u4 H locs ls hf hP hS hl
    unfold f_X9_cutAbove_53 at hf
    refine lv_iconst (v := 0) hx hb dX9_cutAbove_53 (by decide) ?_
    exact B54 rc8 hrc8 0 u1 u2 u3 u4 _ _ _ hf hP hS (lv_sub hl [0, 1, 2, 3, 4] rfl)
  have B8 : ∀ (n : Nat), ∀ (u1 : Int32) (u2 : Int32) (u3 : Int32) (u4 : Int32) (H : Heap) (locs : List Loc) (ls : Array Slot), f_X9_cutAbove_8 σ n u1 u2 u3 u4 = some r → va_P (zt_D G) vwCl (zt_ww G σ) H → va_S (zt_A G) s.heap H locs → lv_has ls 6 [(0, .ref (zt_ad G 94)), (1, .int u1), (2, .int u2), (3, .int u3), (4, .int u4)] → W p l e (zt_R 3 65) s m ([.ref (zt_ad G 94), .int x1, .int x2] : List Value).toArray below meth c H locs 0 0 (MQ below (zt_Ci G r σ) ([.ref (zt_ad G 94), .int x1, .int x2] : List Value).toArray s 0 0 (zt_A G)) (F0 m 8 ls []) := by
    intro n
    induction n with
    | zero => intro u1 u2 u3 u4 H locs ls hf; exact nomatch hf
    | succ n hrc8 =>
      intro u1 u2 u3 u4 H locs ls hf hP hS hl
      generalize hrcg : f_X9_cutAbove_8 σ n = rc8 at hrc8
      have hf : f_X9_cutAbove_8b σ rc8 u1 u2 u3 u4 = some r := by rw [← hrcg]; exact hf
      unfold f_X9_cutAbove_8b at hf
      refine lv_iload hx hb dX9_cutAbove_8 (lv_at hl 4 rfl) ?_
      refine lv_bipush (v := 32) hx hb dX9_cutAbove_10 (by decide +kernel) ?_
      refine lv_iload_n hx hb dX9_cutAbove_12 rfl (lv_at hl 1 rfl) ?_
      refine lv_imul hx hb dX9_cutAbove_13 ?_
      refine lv_aload_n hx hb dX9_cutAbove_14 rfl (lv_at hl 0 rfl) ?_
      refine va_get (D := zt_D G) (ci := 8) (v := .ref (zt_ad G 103)) (C := RX9) (T := TX9) (N := 37) hx hb hts inX9 hown hK hP 94 (zt_a8 (rfl : zt_kd 94 = 8)) rfl 12 (by decide) fl42 (fun _ h9 => h9) rfl dX9_cutAbove_15 ?_
      refine lv_iload_n hx hb dX9_cutAbove_18 rfl (lv_at hl 1 rfl) ?_
      obtain ⟨g1, hf⟩ := zt_gd_some hf
      refine va_iald hx hb hK hP 103 0 zt_a_103 rfl (zt_gI_in g1) dX9_cutAbove_19 ?_
      refine lv_iadd hx hb dX9_cutAbove_20 ?_
      refine lv_icmp_ge (tgt := 101) hx hb dX9_cutAbove_21 (by decide) (fun c2 => ?_) (fun c2 => ?_)
      · have hf := (if_pos c2).symm.trans hf
        refine lv_iload_n hx hb dX9_cutAbove_101 rfl (lv_at hl 3 rfl) ?_
        exact W.iret hx hb hr (fun t ht hW => ⟨⟨_, _, rfl, ⟨Option.some.inj hf, rfl⟩, zt_go hE hP hS zt_id ht hW⟩, hS.F ht⟩) hS.2.2 dX9_cutAbove_102
      · have hf := (if_neg c2).symm.trans hf
        refine lv_aload_n hx hb dX9_cutAbove_24 rfl (lv_at hl 0 rfl) ?_
        refine va_get (D := zt_D G) (ci := 8) (v := .ref (zt_ad G 105)) (C := RX9) (T := TX9) (N := 37) hx hb hts inX9 hown hK hP 94 (zt_a8 (rfl : zt_kd 94 = 8)) rfl 14 (by decide) fl48 (fun _ h9 => h9) rfl dX9_cutAbove_25 ?_
        refine lv_iload hx hb dX9_cutAbove_28 (lv_at hl 4 rfl) ?_
        obtain ⟨g3, hf⟩ := zt_gd_some hf
        refine va_iald hx hb hK hP 105 0 zt_a_105 rfl (zt_gI_in g3) dX9_cutAbove_30 ?_
        refine lv_iconst (v := 3) hx hb dX9_cutAbove_31 (by decide) ?_
        refine lv_icmp_ne (tgt := 53) hx hb dX9_cutAbove_32 (by decide) (fun c4 => ?_) (fun c4 => ?_)
        · have hf := (if_neg c4).symm.trans hf
          exact B53 rc8 hrc8 u1 u2 u3 u4 _ _ _ hf hP hS (lv_sub hl [0, 1, 2, 3, 4] rfl)
        · have hf := (if_pos c4).symm.trans hf
          refine lv_iload_n hx hb dX9_cutAbove_35 rfl (lv_at hl 2 rfl) ?_
          refine lv_aload_n hx hb dX9_cutAbove_36 rfl (lv_at hl 0 rfl) ?_
          refine va_get (D := zt_D G) (ci := 8) (v := .ref (zt_ad G 104)) (C := RX9) (T := TX9) (N := 37) hx hb hts inX9 hown hK hP 94 (zt_a8 (rfl : zt_kd 94 = 8)) rfl 13 (by decide) fl45 (fun _ h9 => h9) rfl dX9_cutAbove_37 ?_
          refine lv_iload hx hb dX9_cutAbove_40 (lv_at hl 4 rfl) ?_
          obtain ⟨g5, hf⟩ := zt_gd_some hf
          refine va_iald hx hb hK hP 104 0 zt_a_104 rfl (zt_gI_in g5) dX9_cutAbove_42 ?_
          obtain ⟨v6, hvv6, hf⟩ := zt_bd_some hf
          refine va_calli (va_runS (As := [.int u2, .int (σ 104 u4.toNatClampNeg)]) (rest := []) ⟨hx, hb, hml, hown, hts⟩ (m_X9_isUnder l G (σ := σ) hvv6) (va_cwS 2 hts gX9_cutAbove_X9_isUnder rfl rfl rfl zh_X9_isUnder ⟨Nat.le_of_ble_eq_true rfl, Nat.le_of_ble_eq_true rfl⟩) ⟨zt_blind, fun U hU hW => ⟨rfl, zt_go hE hP hS zt_id hU hW⟩⟩ rfl rfl hl.1 rfl (lv_room (Nat.le_of_ble_eq_true rfl)) dX9_cutAbove_43 ⟨Nat.zero_le _, Nat.zero_le _⟩) hS (fun _ _ h => h) (fun _ h => h) (fun r u t H locs ht hvm hw hB _ _ hS => ?_)
          rw [hw.1]; have hB : zt_B G u t := hB; rw [hw.2] at hB; have hP := zt_B.P hB ht
          refine lv_if_eq (tgt := 53) hx hb dX9_cutAbove_46 (by decide) (fun c8 => ?_) (fun c8 => ?_)
          · have hf := (if_pos c8).symm.trans hf
            exact B53 rc8 hrc8 u1 u2 u3 u4 _ _ _ hf hP hS (lv_sub hl [0, 1, 2, 3, 4] rfl)
          · have hf := (if_neg c8).symm.trans hf
            refine lv_iconst (v := 1) hx hb dX9_cutAbove_49 (by decide) ?_
            refine lv_goto (tgt := 54) hx hb dX9_cutAbove_50 (by decide) ?_
            exact B54 rc8 hrc8 1 u1 u2 u3 u4 _ _ _ hf hP hS (lv_sub hl [0, 1, 2, 3, 4] rfl)
  unfold f_X9_cutAbove at hf
  refine lv_iconst (v := (-1)) hx hb dX9_cutAbove_0 (by decide) ?_
  refine lv_istore_n (lv' := [(3, .int (-1)), (0, .ref (zt_ad G 94)), (1, .int x1), (2, .int x2)]) hx hb dX9_cutAbove_1 rfl hl (by decide) rfl (fun ls hl => ?_)
  refine lv_bipush (v := 32) hx hb dX9_cutAbove_2 (by decide +kernel) ?_
  refine lv_iload_n hx hb dX9_cutAbove_4 rfl (lv_at hl 2 rfl) ?_
  refine lv_imul hx hb dX9_cutAbove_5 ?_
  refine lv_istore (lv' := [(4, .int (32 * x1)), (3, .int (-1)), (0, .ref (zt_ad G 94)), (1, .int x1), (2, .int x2)]) hx hb dX9_cutAbove_6 hl (by decide) rfl (fun ls hl => ?_)
  exact B8 zt_FU x1 x2 (-1) (32 * x1) _ _ _ hf hP hS (lv_sub hl [2, 3, 4, 1, 0] rfl)

theorem zh_X9_treeAbove : yX9_treeAbove.cls = RX9 ∧ yX9_treeAbove.cls ≠ "java/lang/invoke/MethodHandle" ∧ yX9_treeAbove.cls ≠ "java/lang/invoke/VarHandle" ∧ (parseMethodDescriptor yX9_treeAbove.desc).map (fun d => d.parameters.length) = some 2 := by decide +kernel
set_option maxHeartbeats 4000000 in
set_option maxRecDepth 100000 in
theorem m_X9_treeAbove (l : Launch) (G : zt_G) {σ : zt_St} {x1 : Int32} {x2 : Int32} {r : Int32} (hf : f_X9_treeAbove σ x1 x2 = some r) : zt_Mi l G yX9_treeAbove wsX9_treeAbove 4 86 [.ref (zt_ad G 94), .int x1, .int x2] σ r σ := by
  refine Met.ofW (cc := cX9_treeAbove) (maxL := 5) (ret := (some .int)) (by decide) rfl ?_
  intro p e s m args below meth c s₁ B hml hv
  obtain ⟨rfl, hBB⟩ := hv
  have hE := zt_B.env hBB; have hK := hE.2.1; have hP := hBB.2.1
  have hx := B.exec; have hb := B.bytes; have hr := B.returns; have hts := atoms_spec (ws := wsX9_treeAbove) B.pre
  have hown : s.vm.findClass RX9 = some m.cls := findClass_of_methodNamed B.named
  have hlocks := B.notSynchronized
  have hS : va_S (zt_A G) s.heap s.heap [] := va_S.rf
  have hl := lv_entry ([.ref (zt_ad G 94), .int x1, .int x2]) (n := 5) (Nat.le_of_ble_eq_true rfl)
  rw [lg_entry_eq]
  generalize (lg_sl ([.ref (zt_ad G 94), .int x1, .int x2]) ++ List.replicate (5 - (lg_sl ([.ref (zt_ad G 94), .int x1, .int x2])).length) Slot.unset).toArray = ls at hl ⊢
  have hl : lv_has ls 5 [(0, .ref (zt_ad G 94)), (1, .int x1), (2, .int x2)] := hl
  show W p l e (zt_R 4 86) s m ([.ref (zt_ad G 94), .int x1, .int x2] : List Value).toArray below meth c s.heap [] 0 0 (MQ below (zt_Ci G r σ) ([.ref (zt_ad G 94), .int x1, .int x2] : List Value).toArray s 0 0 (zt_A G)) (F0 m 0 ls [])
  have fl42 := hts (.fieldLink RX9 42 "ZoneTreeModel" "many" "[I") (List.mem_cons_of_mem _ (List.mem_append_left _ (List.mem_of_getElem? (i := 0) rfl)))
  have fl45 := hts (.fieldLink RX9 45 "ZoneTreeModel" "name" "[I") (List.mem_cons_of_mem _ (List.mem_append_left _ (List.mem_of_getElem? (i := 2) rfl)))
  have fl48 := hts (.fieldLink RX9 48 "ZoneTreeModel" "sort" "[I") (List.mem_cons_of_mem _ (List.mem_append_left _ (List.mem_of_getElem? (i := 1) rfl)))
  have inX9 : ∀ w ∈ wsX90, w ∈ wsX9_treeAbove := fun w h => (List.mem_cons_of_mem _ (List.mem_append_right _ h))
  have B55 : ∀ (rc8 : Int32 → Int32 → Int32 → Int32 → Option (Int32)) (hrc8 : ∀ (u1 : Int32) (u2 : Int32) (u3 : Int32) (u4 : Int32) (H : Heap) (locs : List Loc) (ls : Array Slot), rc8 u1 u2 u3 u4 = some r → va_P (zt_D G) vwCl (zt_ww G σ) H → va_S (zt_A G) s.heap H locs → lv_has ls 5 [(0, .ref (zt_ad G 94)), (1, .int u1), (2, .int u2), (3, .int u3), (4, .int u4)] → W p l e (zt_R 4 86) s m ([.ref (zt_ad G 94), .int x1, .int x2] : List Value).toArray below meth c H locs 0 0 (MQ below (zt_Ci G r σ) ([.ref (zt_ad G 94), .int x1, .int x2] : List Value).toArray s 0 0 (zt_A G)) (F0 m 8 ls [])), ∀ (y0 : Int32) (u1 : Int32) (u2 : Int32) (u4 : Int32) (H : Heap) (locs : List Loc) (ls : Array Slot), f_X9_treeAbove_55 σ rc8 y0 u1 u2 u4 = some r → va_P (zt_D G) vwCl (zt_ww G σ) H → va_S (zt_A G) s.heap H locs → lv_has ls 5 [(0, .ref (zt_ad G 94)), (1, .int u1), (2, .int u2), (4, .int u4)] → W p l e (zt_R 4 86) s m ([.ref (zt_ad G 94), .int x1, .int x2] : List Value).toArray below meth c H locs 0 0 (MQ below (zt_Ci G r σ) ([.ref (zt_ad G 94), .int x1, .int x2] : List Value).toArray s 0 0 (zt_A G)) (F0 m 55 ls [.int y0]) := by
    intro rc8 hrc8 y0 u1 u2 u4 H locs ls hf hP hS hl
    unfold f_X9_treeAbove_55 at hf
    refine lv_istore_n (lv' := [(3, .int y0), (0, .ref (zt_ad G 94)), (1, .int u1), (2, .int u2), (4, .int u4)]) hx hb dX9_treeAbove_55 rfl hl (by decide) rfl (fun ls hl => ?_)
    refine lv_iinc (v := (u4 + 1)) (lv' := [(4, .int (u4 + 1)), (3, .int y0), (0, .ref (zt_ad G 94)), (1, .int u1), (2, .int u2)]) hx hb dX9_treeAbove_56 hl (k := 4) rfl rfl (by decide) rfl (fun ls hl => ?_)
    refine lv_goto (tgt := 8) hx hb dX9_treeAbove_59 (by decide) ?_
    exact hrc8 u1 u2 y0 (u4 + 1) _ _ _ hf hP hS (lv_sub hl [2, 3, 4, 1, 0] rfl)
  have B54 : ∀ (rc8 : Int32 → Int32 → Int32 → Int32 → Option (Int32)) (hrc8 : ∀ (u1 : Int32) (u2 : Int32) (u3 : Int32) (u4 : Int32) (H : Heap) (locs : List Loc) (ls : Array Slot), rc8 u1 u2 u3 u4 = some r → va_P (zt_D G) vwCl (zt_ww G σ) H → va_S (zt_A G) s.heap H locs → lv_has ls 5 [(0, .ref (zt_ad G 94)), (1, .int u1), (2, .int u2), (3, .int u3), (4, .int u4)] → W p l e (zt_R 4 86) s m ([.ref (zt_ad G 94), .int x1, .int x2] : List Value).toArray below meth c H locs 0 0 (MQ below (zt_Ci G r σ) ([.ref (zt_ad G 94), .int x1, .int x2] : List Value).toArray s 0 0 (zt_A G)) (F0 m 8 ls [])), ∀ (u1 : Int32) (u2 : Int32) (u3 : Int32) (u4 : Int32) (H : Heap) (locs : List Loc) (ls : Array Slot), f_X9_treeAbove_54 σ rc8 u1 u2 u3 u4 = some r → va_P (zt_D G) vwCl (zt_ww G σ) H → va_S (zt_A G) s.heap H locs → lv_has ls 5 [(0, .ref (zt_ad G 94)), (1, .int u1), (2, .int u2), (3, .int u3), (4, .int u4)] → W p l e (zt_R 4 86) s m ([.ref (zt_ad G 94), .int x1, .int x2] : List Value).toArray below meth c H locs 0 0 (MQ below (zt_Ci G r σ) ([.ref (zt_ad G 94), .int x1, .int x2] : List Value).toArray s 0 0 (zt_A G)) (F0 m 54 ls []) := by
    intro rc8 hrc8 u1 u2 u3 u4 H locs ls hf hP hS hl
    unfold f_X9_treeAbove_54 at hf
    refine lv_iload_n hx hb dX9_treeAbove_54 rfl (lv_at hl 3 rfl) ?_
    exact B55 rc8 hrc8 u3 u1 u2 u4 _ _ _ hf hP hS (lv_sub hl [0, 1, 2, 4] rfl)
  have B8 : ∀ (n : Nat), ∀ (u1 : Int32) (u2 : Int32) (u3 : Int32) (u4 : Int32) (H : Heap) (locs : List Loc) (ls : Array Slot), f_X9_treeAbove_8 σ n u1 u2 u3 u4 = some r → va_P (zt_D G) vwCl (zt_ww G σ) H → va_S (zt_A G) s.heap H locs → lv_has ls 5 [(0, .ref (zt_ad G 94)), (1, .int u1), (2, .int u2), (3, .int u3), (4, .int u4)] → W p l e (zt_R 4 86) s m ([.ref (zt_ad G 94), .int x1, .int x2] : List Value).toArray below meth c H locs 0 0 (MQ below (zt_Ci G r σ) ([.ref (zt_ad G 94), .int x1, .int x2] : List Value).toArray s 0 0 (zt_A G)) (F0 m 8 ls []) := by
    intro n
    induction n with
    | zero => intro u1 u2 u3 u4 H locs ls hf; exact nomatch hf
    | succ n hrc8 =>
      intro u1 u2 u3 u4 H locs ls hf hP hS hl
      generalize hrcg : f_X9_treeAbove_8 σ n = rc8 at hrc8
      have hf : f_X9_treeAbove_8b σ rc8 u1 u2 u3 u4 = some r := by rw [← hrcg]; exact hf
      unfold f_X9_treeAbove_8b at hf
      refine lv_iload hx hb dX9_treeAbove_8 (lv_at hl 4 rfl) ?_
      refine lv_bipush (v := 32) hx hb dX9_treeAbove_10 (by decide +kernel) ?_
      refine lv_iload_n hx hb dX9_treeAbove_12 rfl (lv_at hl 1 rfl) ?_
      refine lv_imul hx hb dX9_treeAbove_13 ?_
      refine lv_aload_n hx hb dX9_treeAbove_14 rfl (lv_at hl 0 rfl) ?_
      refine va_get (D := zt_D G) (ci := 8) (v := .ref (zt_ad G 103)) (C := RX9) (T := TX9) (N := 37) hx hb hts inX9 hown hK hP 94 (zt_a8 (rfl : zt_kd 94 = 8)) rfl 12 (by decide) fl42 (fun _ h9 => h9) rfl dX9_treeAbove_15 ?_
      refine lv_iload_n hx hb dX9_treeAbove_18 rfl (lv_at hl 1 rfl) ?_
      obtain ⟨g1, hf⟩ := zt_gd_some hf
      refine va_iald hx hb hK hP 103 0 zt_a_103 rfl (zt_gI_in g1) dX9_treeAbove_19 ?_
      refine lv_iadd hx hb dX9_treeAbove_20 ?_
      refine lv_icmp_ge (tgt := 62) hx hb dX9_treeAbove_21 (by decide) (fun c2 => ?_) (fun c2 => ?_)
      · have hf := (if_pos c2).symm.trans hf
        refine lv_iload_n hx hb dX9_treeAbove_62 rfl (lv_at hl 3 rfl) ?_
        exact W.iret hx hb hr (fun t ht hW => ⟨⟨_, _, rfl, ⟨Option.some.inj hf, rfl⟩, zt_go hE hP hS zt_id ht hW⟩, hS.F ht⟩) hS.2.2 dX9_treeAbove_63
      · have hf := (if_neg c2).symm.trans hf
        refine lv_aload_n hx hb dX9_treeAbove_24 rfl (lv_at hl 0 rfl) ?_
        refine va_get (D := zt_D G) (ci := 8) (v := .ref (zt_ad G 105)) (C := RX9) (T := TX9) (N := 37) hx hb hts inX9 hown hK hP 94 (zt_a8 (rfl : zt_kd 94 = 8)) rfl 14 (by decide) fl48 (fun _ h9 => h9) rfl dX9_treeAbove_25 ?_
        refine lv_iload hx hb dX9_treeAbove_28 (lv_at hl 4 rfl) ?_
        obtain ⟨g3, hf⟩ := zt_gd_some hf
        refine va_iald hx hb hK hP 105 0 zt_a_105 rfl (zt_gI_in g3) dX9_treeAbove_30 ?_
        refine lv_iconst (v := 2) hx hb dX9_treeAbove_31 (by decide) ?_
        refine lv_icmp_ne (tgt := 54) hx hb dX9_treeAbove_32 (by decide) (fun c4 => ?_) (fun c4 => ?_)
        · have hf := (if_neg c4).symm.trans hf
          exact B54 rc8 hrc8 u1 u2 u3 u4 _ _ _ hf hP hS (lv_sub hl [0, 1, 2, 3, 4] rfl)
        · have hf := (if_pos c4).symm.trans hf
          refine lv_iload_n hx hb dX9_treeAbove_35 rfl (lv_at hl 2 rfl) ?_
          refine lv_aload_n hx hb dX9_treeAbove_36 rfl (lv_at hl 0 rfl) ?_
          refine va_get (D := zt_D G) (ci := 8) (v := .ref (zt_ad G 104)) (C := RX9) (T := TX9) (N := 37) hx hb hts inX9 hown hK hP 94 (zt_a8 (rfl : zt_kd 94 = 8)) rfl 13 (by decide) fl45 (fun _ h9 => h9) rfl dX9_treeAbove_37 ?_
          refine lv_iload hx hb dX9_treeAbove_40 (lv_at hl 4 rfl) ?_
          obtain ⟨g5, hf⟩ := zt_gd_some hf
          refine va_iald hx hb hK hP 104 0 zt_a_104 rfl (zt_gI_in g5) dX9_treeAbove_42 ?_
          obtain ⟨v6, hvv6, hf⟩ := zt_bd_some hf
          refine va_calli (va_runS (As := [.int u2, .int (σ 104 u4.toNatClampNeg)]) (rest := []) ⟨hx, hb, hml, hown, hts⟩ (m_X9_isStrictly l G (σ := σ) hvv6) (va_cwS 2 hts gX9_treeAbove_X9_isStrictly rfl rfl rfl zh_X9_isStrictly ⟨Nat.le_of_ble_eq_true rfl, Nat.le_of_ble_eq_true rfl⟩) ⟨zt_blind, fun U hU hW => ⟨rfl, zt_go hE hP hS zt_id hU hW⟩⟩ rfl rfl hl.1 rfl (lv_room (Nat.le_of_ble_eq_true rfl)) dX9_treeAbove_43 ⟨Nat.zero_le _, Nat.zero_le _⟩) hS (fun _ _ h => h) (fun _ h => h) (fun r u t H locs ht hvm hw hB _ _ hS => ?_)
          rw [hw.1]; have hB : zt_B G u t := hB; rw [hw.2] at hB; have hP := zt_B.P hB ht
          refine lv_if_eq (tgt := 54) hx hb dX9_treeAbove_46 (by decide) (fun c8 => ?_) (fun c8 => ?_)
          · have hf := (if_pos c8).symm.trans hf
            exact B54 rc8 hrc8 u1 u2 u3 u4 _ _ _ hf hP hS (lv_sub hl [0, 1, 2, 3, 4] rfl)
          · have hf := (if_neg c8).symm.trans hf
            refine lv_iload hx hb dX9_treeAbove_49 (lv_at hl 4 rfl) ?_
            refine lv_goto (tgt := 55) hx hb dX9_treeAbove_51 (by decide) ?_
            exact B55 rc8 hrc8 u4 u1 u2 u4 _ _ _ hf hP hS (lv_sub hl [0, 1, 2, 4] rfl)
  unfold f_X9_treeAbove at hf
  refine lv_iconst (v := (-1)) hx hb dX9_treeAbove_0 (by decide) ?_
  refine lv_istore_n (lv' := [(3, .int (-1)), (0, .ref (zt_ad G 94)), (1, .int x1), (2, .int x2)]) hx hb dX9_treeAbove_1 rfl hl (by decide) rfl (fun ls hl => ?_)
  refine lv_bipush (v := 32) hx hb dX9_treeAbove_2 (by decide +kernel) ?_
  refine lv_iload_n hx hb dX9_treeAbove_4 rfl (lv_at hl 2 rfl) ?_
  refine lv_imul hx hb dX9_treeAbove_5 ?_
  refine lv_istore (lv' := [(4, .int (32 * x1)), (3, .int (-1)), (0, .ref (zt_ad G 94)), (1, .int x1), (2, .int x2)]) hx hb dX9_treeAbove_6 hl (by decide) rfl (fun ls hl => ?_)
  exact B8 zt_FU x1 x2 (-1) (32 * x1) _ _ _ hf hP hS (lv_sub hl [2, 3, 4, 1, 0] rfl)

theorem zh_X9_joined : yX9_joined.cls ≠ "java/lang/invoke/MethodHandle" ∧ yX9_joined.cls ≠ "java/lang/invoke/VarHandle" ∧ (parseMethodDescriptor yX9_joined.desc).map (fun d => d.parameters.length) = some 3 := by decide +kernel
set_option maxHeartbeats 4000000 in
set_option maxRecDepth 100000 in
theorem m_X9_joined (l : Launch) (G : zt_G) {σ : zt_St} {x0 : Int32} {x1 : Int32} {x2 : Int32} {r : Int32} (hf : f_X9_joined x0 x1 x2 = some r) : zt_Mi l G yX9_joined wsX9_joined 1 22 [.int x0, .int x1, .int x2] σ r σ := by
  refine Met.ofW (cc := cX9_joined) (maxL := 5) (ret := (some .int)) (by decide) rfl ?_
  intro p e s m args below meth c s₁ B hml hv
  obtain ⟨rfl, hBB⟩ := hv
  have hE := zt_B.env hBB; have hK := hE.2.1; have hP := hBB.2.1
  have hx := B.exec; have hb := B.bytes; have hr := B.returns; have hts := atoms_spec (ws := wsX9_joined) B.pre
  have hown : s.vm.findClass RX9 = some m.cls := findClass_of_methodNamed B.named
  have hlocks := B.notSynchronized
  have hS : va_S (zt_A G) s.heap s.heap [] := va_S.rf
  have hl := lv_entry ([.int x0, .int x1, .int x2]) (n := 5) (Nat.le_of_ble_eq_true rfl)
  rw [lg_entry_eq]
  generalize (lg_sl ([.int x0, .int x1, .int x2]) ++ List.replicate (5 - (lg_sl ([.int x0, .int x1, .int x2])).length) Slot.unset).toArray = ls at hl ⊢
  have hl : lv_has ls 5 [(0, .int x0), (1, .int x1), (2, .int x2)] := hl
  show W p l e (zt_R 1 22) s m ([.int x0, .int x1, .int x2] : List Value).toArray below meth c s.heap [] 0 0 (MQ below (zt_Ci G r σ) ([.int x0, .int x1, .int x2] : List Value).toArray s 0 0 (zt_A G)) (F0 m 0 ls [])
  unfold f_X9_joined at hf
  refine lv_iload_n hx hb dX9_joined_0 rfl (lv_at hl 1 rfl) ?_
  obtain ⟨v1, hvv1, hf⟩ := zt_bd_some hf
  refine va_calli (va_runS (As := [.int x1]) (rest := []) ⟨hx, hb, hml, hown, hts⟩ (m_X9_figures l G (σ := σ) hvv1) (va_cwS 1 hts gX9_joined_X9_figures rfl rfl rfl zh_X9_figures ⟨Nat.le_of_ble_eq_true rfl, Nat.le_of_ble_eq_true rfl⟩) ⟨zt_blind, fun U hU hW => ⟨rfl, zt_go hE hP hS zt_id hU hW⟩⟩ rfl rfl hl.1 rfl (lv_room (Nat.le_of_ble_eq_true rfl)) dX9_joined_1 ⟨Nat.zero_le _, Nat.zero_le _⟩) hS (fun _ _ h => h) (fun _ h => h) (fun r u t H locs ht hvm hw hB _ _ hS => ?_)
  rw [hw.1]; have hB : zt_B G u t := hB; rw [hw.2] at hB; have hP := zt_B.P hB ht
  refine lv_iload_n hx hb dX9_joined_4 rfl (lv_at hl 2 rfl) ?_
  refine lv_isub hx hb dX9_joined_5 ?_
  refine lv_istore_n (lv' := [(3, .int (v1 - x2)), (0, .int x0), (1, .int x1), (2, .int x2)]) hx hb dX9_joined_6 rfl hl (by decide) rfl (fun ls hl => ?_)
  refine lv_iload_n hx hb dX9_joined_7 rfl (lv_at hl 2 rfl) ?_
  refine lv_iload_n hx hb dX9_joined_8 rfl (lv_at hl 0 rfl) ?_
  obtain ⟨v3, hvv3, hf⟩ := zt_bd_some hf
  refine va_calli (va_runS (As := [.int (v1 - x2)]) (rest := [.int x1]) ⟨hx, hb, hml, hown, hts⟩ (m_X9_ten l G (σ := σ) hvv3) (va_cwS 1 hts gX9_joined_X9_ten rfl rfl rfl zh_X9_ten ⟨Nat.le_of_ble_eq_true rfl, Nat.le_of_ble_eq_true rfl⟩) ⟨zt_blind, fun U hU hW => ⟨rfl, zt_go hE hP hS zt_id hU hW⟩⟩ rfl rfl hl.1 rfl (lv_room (Nat.le_of_ble_eq_true rfl)) dX9_joined_9 ⟨Nat.zero_le _, Nat.zero_le _⟩) hS (fun _ _ h => h) (fun _ h => h) (fun r u t H locs ht hvm hw hB _ _ hS => ?_)
  rw [hw.1]; have hB : zt_B G u t := hB; rw [hw.2] at hB; have hP := zt_B.P hB ht
  obtain ⟨g5, hf⟩ := zt_gd_some hf
  refine lv_irem hx hb dX9_joined_12 (zt_nz0 g5) ?_
  refine lv_istore (lv' := [(4, .int (x1 - x1 / v3 * v3)), (3, .int (v1 - x2)), (0, .int x0), (1, .int x1), (2, .int x2)]) hx hb dX9_joined_13 hl (by decide) rfl (fun ls hl => ?_)
  refine lv_iload_n hx hb dX9_joined_15 rfl (lv_at hl 2 rfl) ?_
  obtain ⟨v6, hvv6, hf⟩ := zt_bd_some hf
  refine va_calli (va_runS (As := [.int x0]) (rest := []) ⟨hx, hb, hml, hown, hts⟩ (m_X9_figures l G (σ := σ) hvv6) (va_cwS 1 hts gX9_joined_X9_figures rfl rfl rfl zh_X9_figures ⟨Nat.le_of_ble_eq_true rfl, Nat.le_of_ble_eq_true rfl⟩) ⟨zt_blind, fun U hU hW => ⟨rfl, zt_go hE hP hS zt_id hU hW⟩⟩ rfl rfl hl.1 rfl (lv_room (Nat.le_of_ble_eq_true rfl)) dX9_joined_16 ⟨Nat.zero_le _, Nat.zero_le _⟩) hS (fun _ _ h => h) (fun _ h => h) (fun r u t H locs ht hvm hw hB _ _ hS => ?_)
  rw [hw.1]; have hB : zt_B G u t := hB; rw [hw.2] at hB; have hP := zt_B.P hB ht
  refine lv_iload_n hx hb dX9_joined_19 rfl (lv_at hl 1 rfl) ?_
  refine lv_iadd hx hb dX9_joined_20 ?_
  refine lv_iconst (v := 4) hx hb dX9_joined_21 (by decide) ?_
  refine lv_icmp_le (tgt := 29) hx hb dX9_joined_22 (by decide) (fun c8 => ?_) (fun c8 => ?_)
  · have hf := (if_pos c8).symm.trans hf
    refine lv_iload_n hx hb dX9_joined_29 rfl (lv_at hl 2 rfl) ?_
    refine lv_iload_n hx hb dX9_joined_30 rfl (lv_at hl 1 rfl) ?_
    obtain ⟨v9, hvv9, hf⟩ := zt_bd_some hf
    refine va_calli (va_runS (As := [.int (v1 - x2)]) (rest := [.int x0]) ⟨hx, hb, hml, hown, hts⟩ (m_X9_ten l G (σ := σ) hvv9) (va_cwS 1 hts gX9_joined_X9_ten rfl rfl rfl zh_X9_ten ⟨Nat.le_of_ble_eq_true rfl, Nat.le_of_ble_eq_true rfl⟩) ⟨zt_blind, fun U hU hW => ⟨rfl, zt_go hE hP hS zt_id hU hW⟩⟩ rfl rfl hl.1 rfl (lv_room (Nat.le_of_ble_eq_true rfl)) dX9_joined_31 ⟨Nat.zero_le _, Nat.zero_le _⟩) hS (fun _ _ h => h) (fun _ h => h) (fun r u t H locs ht hvm hw hB _ _ hS => ?_)
    rw [hw.1]; have hB : zt_B G u t := hB; rw [hw.2] at hB; have hP := zt_B.P hB ht
    refine lv_imul hx hb dX9_joined_34 ?_
    refine lv_iload hx hb dX9_joined_35 (lv_at hl 0 rfl) ?_
    refine lv_iadd hx hb dX9_joined_37 ?_
    exact W.iret hx hb hr (fun t ht hW => ⟨⟨_, _, rfl, ⟨Option.some.inj hf, rfl⟩, zt_go hE hP hS zt_id ht hW⟩, hS.F ht⟩) hS.2.2 dX9_joined_38
  · have hf := (if_neg c8).symm.trans hf
    refine lv_iconst (v := (-1)) hx hb dX9_joined_25 (by decide) ?_
    refine lv_goto (tgt := 38) hx hb dX9_joined_26 (by decide) ?_
    exact W.iret hx hb hr (fun t ht hW => ⟨⟨_, _, rfl, ⟨Option.some.inj hf, rfl⟩, zt_go hE hP hS zt_id ht hW⟩, hS.F ht⟩) hS.2.2 dX9_joined_38

theorem zh_X9_encloser : yX9_encloser.cls = RX9 ∧ yX9_encloser.cls ≠ "java/lang/invoke/MethodHandle" ∧ yX9_encloser.cls ≠ "java/lang/invoke/VarHandle" ∧ (parseMethodDescriptor yX9_encloser.desc).map (fun d => d.parameters.length) = some 3 := by decide +kernel
set_option maxHeartbeats 4000000 in
set_option maxRecDepth 100000 in
theorem m_X9_encloser (l : Launch) (G : zt_G) {σ : zt_St} {x1 : Int32} {x2 : Int32} {x3 : Int32} {r : Int32} (hf : f_X9_encloser σ x1 x2 x3 = some r) : zt_Mi l G yX9_encloser wsX9_encloser 4 89 [.ref (zt_ad G 94), .int x1, .int x2, .int x3] σ r σ := by
  refine Met.ofW (cc := cX9_encloser) (maxL := 5) (ret := (some .int)) (by decide) rfl ?_
  intro p e s m args below meth c s₁ B hml hv
  obtain ⟨rfl, hBB⟩ := hv
  have hE := zt_B.env hBB; have hK := hE.2.1; have hP := hBB.2.1
  have hx := B.exec; have hb := B.bytes; have hr := B.returns; have hts := atoms_spec (ws := wsX9_encloser) B.pre
  have hown : s.vm.findClass RX9 = some m.cls := findClass_of_methodNamed B.named
  have hlocks := B.notSynchronized
  have hS : va_S (zt_A G) s.heap s.heap [] := va_S.rf
  have hl := lv_entry ([.ref (zt_ad G 94), .int x1, .int x2, .int x3]) (n := 5) (Nat.le_of_ble_eq_true rfl)
  rw [lg_entry_eq]
  generalize (lg_sl ([.ref (zt_ad G 94), .int x1, .int x2, .int x3]) ++ List.replicate (5 - (lg_sl ([.ref (zt_ad G 94), .int x1, .int x2, .int x3])).length) Slot.unset).toArray = ls at hl ⊢
  have hl : lv_has ls 5 [(0, .ref (zt_ad G 94)), (1, .int x1), (2, .int x2), (3, .int x3)] := hl
  show W p l e (zt_R 4 89) s m ([.ref (zt_ad G 94), .int x1, .int x2, .int x3] : List Value).toArray below meth c s.heap [] 0 0 (MQ below (zt_Ci G r σ) ([.ref (zt_ad G 94), .int x1, .int x2, .int x3] : List Value).toArray s 0 0 (zt_A G)) (F0 m 0 ls [])
  have fl13 := hts (.fieldLink RX9 13 "ZoneTreeModel" "apex" "[I") (List.mem_cons_of_mem _ (List.mem_append_left _ (List.mem_of_getElem? (i := 0) rfl)))
  have inX9 : ∀ w ∈ wsX90, w ∈ wsX9_encloser := fun w h => (List.mem_cons_of_mem _ (List.mem_append_right _ h))
  have B6 : ∀ (n : Nat), ∀ (u1 : Int32) (u2 : Int32) (u3 : Int32) (u4 : Int32) (H : Heap) (locs : List Loc) (ls : Array Slot), f_X9_encloser_6 σ n u1 u2 u3 u4 = some r → va_P (zt_D G) vwCl (zt_ww G σ) H → va_S (zt_A G) s.heap H locs → lv_has ls 5 [(0, .ref (zt_ad G 94)), (1, .int u1), (2, .int u2), (3, .int u3), (4, .int u4)] → W p l e (zt_R 4 89) s m ([.ref (zt_ad G 94), .int x1, .int x2, .int x3] : List Value).toArray below meth c H locs 0 0 (MQ below (zt_Ci G r σ) ([.ref (zt_ad G 94), .int x1, .int x2, .int x3] : List Value).toArray s 0 0 (zt_A G)) (F0 m 6 ls []) := by
    intro n
    induction n with
    | zero => intro u1 u2 u3 u4 H locs ls hf; exact nomatch hf
    | succ n hrc6 =>
      intro u1 u2 u3 u4 H locs ls hf hP hS hl
      generalize hrcg : f_X9_encloser_6 σ n = rc6 at hrc6
      have hf : f_X9_encloser_6b σ rc6 u1 u2 u3 u4 = some r := by rw [← hrcg]; exact hf
      unfold f_X9_encloser_6b at hf
      refine lv_iload hx hb dX9_encloser_6 (lv_at hl 4 rfl) ?_
      refine lv_aload_n hx hb dX9_encloser_8 rfl (lv_at hl 0 rfl) ?_
      refine va_get (D := zt_D G) (ci := 8) (v := .ref (zt_ad G 95)) (C := RX9) (T := TX9) (N := 37) hx hb hts inX9 hown hK hP 94 (zt_a8 (rfl : zt_kd 94 = 8)) rfl 3 (by decide) fl13 (fun _ h9 => h9) rfl dX9_encloser_9 ?_
      refine lv_iload_n hx hb dX9_encloser_12 rfl (lv_at hl 2 rfl) ?_
      obtain ⟨g3, hf⟩ := zt_gd_some hf
      refine va_iald hx hb hK hP 95 0 zt_a_95 rfl (zt_gI_in g3) dX9_encloser_13 ?_
      obtain ⟨v4, hvv4, hf⟩ := zt_bd_some hf
      refine va_calli (va_runS (As := [.int (σ 95 u2.toNatClampNeg)]) (rest := [.int u4]) ⟨hx, hb, hml, hown, hts⟩ (m_X9_figures l G (σ := σ) hvv4) (va_cwS 1 hts gX9_encloser_X9_figures rfl rfl rfl zh_X9_figures ⟨Nat.le_of_ble_eq_true rfl, Nat.le_of_ble_eq_true rfl⟩) ⟨zt_blind, fun U hU hW => ⟨rfl, zt_go hE hP hS zt_id hU hW⟩⟩ rfl rfl hl.1 rfl (lv_room (Nat.le_of_ble_eq_true rfl)) dX9_encloser_14 ⟨Nat.zero_le _, Nat.zero_le _⟩) hS (fun _ _ h => h) (fun _ h => h) (fun r u t H locs ht hvm hw hB _ _ hS => ?_)
      rw [hw.1]; have hB : zt_B G u t := hB; rw [hw.2] at hB; have hP := zt_B.P hB ht
      refine lv_icmp_le (tgt := 47) hx hb dX9_encloser_17 (by decide) (fun c6 => ?_) (fun c6 => ?_)
      · have hf := (if_pos c6).symm.trans hf
        refine lv_aload_n hx hb dX9_encloser_47 rfl (lv_at hl 0 rfl) ?_
        refine va_get (D := zt_D G) (ci := 8) (v := .ref (zt_ad G 95)) (C := RX9) (T := TX9) (N := 37) hx hb hts inX9 hown hK hP 94 (zt_a8 (rfl : zt_kd 94 = 8)) rfl 3 (by decide) fl13 (fun _ h9 => h9) rfl dX9_encloser_48 ?_
        refine lv_iload_n hx hb dX9_encloser_51 rfl (lv_at hl 2 rfl) ?_
        obtain ⟨g7, hf⟩ := zt_gd_some hf
        refine va_iald hx hb hK hP 95 0 zt_a_95 rfl (zt_gI_in g7) dX9_encloser_52 ?_
        exact W.iret hx hb hr (fun t ht hW => ⟨⟨_, _, rfl, ⟨Option.some.inj hf, rfl⟩, zt_go hE hP hS zt_id ht hW⟩, hS.F ht⟩) hS.2.2 dX9_encloser_53
      · have hf := (if_neg c6).symm.trans hf
        refine lv_aload_n hx hb dX9_encloser_20 rfl (lv_at hl 0 rfl) ?_
        refine lv_iload_n hx hb dX9_encloser_21 rfl (lv_at hl 1 rfl) ?_
        refine lv_iload_n hx hb dX9_encloser_22 rfl (lv_at hl 3 rfl) ?_
        refine lv_iload hx hb dX9_encloser_23 (lv_at hl 4 rfl) ?_
        obtain ⟨v8, hvv8, hf⟩ := zt_bd_some hf
        refine va_calli (va_runS (As := [.int u3, .int u4]) (rest := [.int u1, .ref (zt_ad G 94)]) ⟨hx, hb, hml, hown, hts⟩ (m_X9_head l G (σ := σ) hvv8) (va_cwS 2 hts gX9_encloser_X9_head rfl rfl rfl zh_X9_head ⟨Nat.le_of_ble_eq_true rfl, Nat.le_of_ble_eq_true rfl⟩) ⟨zt_blind, fun U hU hW => ⟨rfl, zt_go hE hP hS zt_id hU hW⟩⟩ rfl rfl hl.1 rfl (lv_room (Nat.le_of_ble_eq_true rfl)) dX9_encloser_25 ⟨Nat.zero_le _, Nat.zero_le _⟩) hS (fun _ _ h => h) (fun _ h => h) (fun r u t H locs ht hvm hw hB _ _ hS => ?_)
        rw [hw.1]; have hB : zt_B G u t := hB; rw [hw.2] at hB; have hP := zt_B.P hB ht
        obtain ⟨v10, hvv10, hf⟩ := zt_bd_some hf
        refine va_calli (va_runV (As := [.int u1, .int v8]) (rest := []) ⟨hx, hb, hml, hown, hts⟩ (m_X9_isThere l G (σ := σ) hvv10) (cwV 2 hts gX9_encloser_X9_isThere rfl rfl rfl zh_X9_isThere ⟨Nat.le_of_ble_eq_true rfl, Nat.le_of_ble_eq_true rfl⟩) ⟨zt_blind, va_recv hK hP (ci := 8) (q0 := 94) rfl (zt_a8 (rfl : zt_kd 94 = 8)), fun U hU hW => ⟨rfl, zt_go hE hP hS zt_id hU hW⟩⟩ rfl rfl hl.1 rfl (lv_room (Nat.le_of_ble_eq_true rfl)) dX9_encloser_28 ⟨Nat.zero_le _, Nat.zero_le _⟩) hS (fun _ _ h => h) (fun _ h => h) (fun r u t H locs ht hvm hw hB _ _ hS => ?_)
        rw [hw.1]; have hB : zt_B G u t := hB; rw [hw.2] at hB; have hP := zt_B.P hB ht
        refine lv_if_eq (tgt := 41) hx hb dX9_encloser_31 (by decide) (fun c12 => ?_) (fun c12 => ?_)
        · have hf := (if_pos c12).symm.trans hf
          refine lv_iinc (v := (u4 + (-1))) (lv' := [(4, .int (u4 + (-1))), (0, .ref (zt_ad G 94)), (1, .int u1), (2, .int u2), (3, .int u3)]) hx hb dX9_encloser_41 hl (k := 4) rfl rfl (by decide) rfl (fun ls hl => ?_)
          refine lv_goto (tgt := 6) hx hb dX9_encloser_44 (by decide) ?_
          exact hrc6 u1 u2 u3 (u4 + (-1)) _ _ _ hf hP hS (lv_sub hl [1, 2, 3, 4, 0] rfl)
        · have hf := (if_neg c12).symm.trans hf
          refine lv_iload_n hx hb dX9_encloser_34 rfl (lv_at hl 3 rfl) ?_
          refine lv_iload hx hb dX9_encloser_35 (lv_at hl 4 rfl) ?_
          obtain ⟨v13, hvv13, hf⟩ := zt_bd_some hf
          refine va_calli (va_runS (As := [.int u3, .int u4]) (rest := []) ⟨hx, hb, hml, hown, hts⟩ (m_X9_head l G (σ := σ) hvv13) (va_cwS 2 hts gX9_encloser_X9_head rfl rfl rfl zh_X9_head ⟨Nat.le_of_ble_eq_true rfl, Nat.le_of_ble_eq_true rfl⟩) ⟨zt_blind, fun U hU hW => ⟨rfl, zt_go hE hP hS zt_id hU hW⟩⟩ rfl rfl hl.1 rfl (lv_room (Nat.le_of_ble_eq_true rfl)) dX9_encloser_37 ⟨Nat.zero_le _, Nat.zero_le _⟩) hS (fun _ _ h => h) (fun _ h => h) (fun r u t H locs ht hvm hw hB _ _ hS => ?_)
          rw [hw.1]; have hB : zt_B G u t := hB; rw [hw.2] at hB; have hP := zt_B.P hB ht
          exact W.iret hx hb hr (fun t ht hW => ⟨⟨_, _, rfl, ⟨Option.some.inj hf, rfl⟩, zt_go hE hP hS zt_id ht hW⟩, hS.F ht⟩) hS.2.2 dX9_encloser_40
  unfold f_X9_encloser at hf
  refine lv_iload_n hx hb dX9_encloser_0 rfl (lv_at hl 3 rfl) ?_
  obtain ⟨v1, hvv1, hf⟩ := zt_bd_some hf
  refine va_calli (va_runS (As := [.int x3]) (rest := []) ⟨hx, hb, hml, hown, hts⟩ (m_X9_figures l G (σ := σ) hvv1) (va_cwS 1 hts gX9_encloser_X9_figures rfl rfl rfl zh_X9_figures ⟨Nat.le_of_ble_eq_true rfl, Nat.le_of_ble_eq_true rfl⟩) ⟨zt_blind, fun U hU hW => ⟨rfl, zt_go hE hP hS zt_id hU hW⟩⟩ rfl rfl hl.1 rfl (lv_room (Nat.le_of_ble_eq_true rfl)) dX9_encloser_1 ⟨Nat.zero_le _, Nat.zero_le _⟩) hS (fun _ _ h => h) (fun _ h => h) (fun r u t H locs ht hvm hw hB _ _ hS => ?_)
  rw [hw.1]; have hB : zt_B G u t := hB; rw [hw.2] at hB; have hP := zt_B.P hB ht
  refine lv_istore (lv' := [(4, .int v1), (0, .ref (zt_ad G 94)), (1, .int x1), (2, .int x2), (3, .int x3)]) hx hb dX9_encloser_4 hl (by decide) rfl (fun ls hl => ?_)
  exact B6 zt_FU x1 x2 x3 v1 _ _ _ hf hP hS (lv_sub hl [1, 2, 3, 4, 0] rfl)

theorem zh_X9_asks : yX9_asks.cls = RX9 ∧ yX9_asks.cls ≠ "java/lang/invoke/MethodHandle" ∧ yX9_asks.cls ≠ "java/lang/invoke/VarHandle" ∧ (parseMethodDescriptor yX9_asks.desc).map (fun d => d.parameters.length) = some 4 := by decide +kernel
set_option maxHeartbeats 4000000 in
set_option maxRecDepth 100000 in
theorem m_X9_asks (l : Launch) (G : zt_G) {σ : zt_St} {x1 : Int32} {x2 : Int32} {x3 : Int32} {x4 : Int32} {r : Int32} {σ1 : zt_St} (hf : f_X9_asks σ x1 x2 x3 x4 = some (r, σ1)) : zt_Mi l G yX9_asks wsX9_asks 5 113 [.ref (zt_ad G 94), .int x1, .int x2, .int x3, .int x4] σ r σ1 := by
  refine Met.ofW (cc := cX9_asks) (maxL := 15) (ret := (some .int)) (by decide) rfl ?_
  intro p e s m args below meth c s₁ B hml hv
  obtain ⟨rfl, hBB⟩ := hv
  have hE := zt_B.env hBB; have hK := hE.2.1; have hP := hBB.2.1
  have hx := B.exec; have hb := B.bytes; have hr := B.returns; have hts := atoms_spec (ws := wsX9_asks) B.pre
  have hown : s.vm.findClass RX9 = some m.cls := findClass_of_methodNamed B.named
  have hlocks := B.notSynchronized
  have hS : va_S (zt_A G) s.heap s.heap [] := va_S.rf
  have hl := lv_entry ([.ref (zt_ad G 94), .int x1, .int x2, .int x3, .int x4]) (n := 15) (Nat.le_of_ble_eq_true rfl)
  rw [lg_entry_eq]
  generalize (lg_sl ([.ref (zt_ad G 94), .int x1, .int x2, .int x3, .int x4]) ++ List.replicate (15 - (lg_sl ([.ref (zt_ad G 94), .int x1, .int x2, .int x3, .int x4])).length) Slot.unset).toArray = ls at hl ⊢
  have hl : lv_has ls 15 [(0, .ref (zt_ad G 94)), (1, .int x1), (2, .int x2), (3, .int x3), (4, .int x4)] := hl
  show W p l e (zt_R 5 113) s m ([.ref (zt_ad G 94), .int x1, .int x2, .int x3, .int x4] : List Value).toArray below meth c s.heap [] 0 0 (MQ below (zt_Ci G r σ1) ([.ref (zt_ad G 94), .int x1, .int x2, .int x3, .int x4] : List Value).toArray s 0 0 (zt_A G)) (F0 m 0 ls [])
  have fl13 := hts (.fieldLink RX9 13 "ZoneTreeModel" "apex" "[I") (List.mem_cons_of_mem _ (List.mem_append_left _ (List.mem_append_left _ (List.mem_of_getElem? (i := 7) rfl))))
  have fl17 := hts (.fieldLink RX9 17 "ZoneTreeModel" "lack" "[I") (List.mem_cons_of_mem _ (List.mem_append_left _ (List.mem_append_left _ (List.mem_of_getElem? (i := 6) rfl))))
  have fl45 := hts (.fieldLink RX9 45 "ZoneTreeModel" "name" "[I") (List.mem_cons_of_mem _ (List.mem_append_left _ (List.mem_append_left _ (List.mem_of_getElem? (i := 2) rfl))))
  have fl51 := hts (.fieldLink RX9 51 "ZoneTreeModel" "number" "[I") (List.mem_cons_of_mem _ (List.mem_append_left _ (List.mem_append_left _ (List.mem_of_getElem? (i := 5) rfl))))
  have fl54 := hts (.fieldLink RX9 54 "ZoneTreeModel" "life" "[I") (List.mem_cons_of_mem _ (List.mem_append_left _ (List.mem_append_left _ (List.mem_of_getElem? (i := 3) rfl))))
  have fl190 := hts (.fieldLink RX9 190 "ZoneTreeModel" "ends" "I") (List.mem_cons_of_mem _ (List.mem_append_left _ (List.mem_append_left _ (List.mem_of_getElem? (i := 0) rfl))))
  have fl193 := hts (.fieldLink RX9 193 "ZoneTreeModel" "its" "I") (List.mem_cons_of_mem _ (List.mem_append_left _ (List.mem_append_left _ (List.mem_of_getElem? (i := 1) rfl))))
  have fl199 := hts (.fieldLink RX9 199 "ZoneTreeModel" "lasts" "I") (List.mem_cons_of_mem _ (List.mem_append_left _ (List.mem_append_left _ (List.mem_of_getElem? (i := 4) rfl))))
  have inX9 : ∀ w ∈ wsX90, w ∈ wsX9_asks := fun w h => (List.mem_cons_of_mem _ (List.mem_append_right _ h))
  have B390 : ∀ (σ : zt_St) (H : Heap) (locs : List Loc) (ls : Array Slot), f_X9_asks_390 σ = some (r, σ1) → va_P (zt_D G) vwCl (zt_ww G σ) H → va_S (zt_A G) s.heap H locs → lv_has ls 15 [(0, .ref (zt_ad G 94))] → W p l e (zt_R 5 113) s m ([.ref (zt_ad G 94), .int x1, .int x2, .int x3, .int x4] : List Value).toArray below meth c H locs 0 0 (MQ below (zt_Ci G r σ1) ([.ref (zt_ad G 94), .int x1, .int x2, .int x3, .int x4] : List Value).toArray s 0 0 (zt_A G)) (F0 m 390 ls []) := by
    intro σ H locs ls hf hP hS hl
    unfold f_X9_asks_390 at hf
    refine lv_aload_n hx hb dX9_asks_390 rfl (lv_at hl 0 rfl) ?_
    refine lv_iconst (v := (-1)) hx hb dX9_asks_391 (by decide) ?_
    obtain ⟨σ66, hσ66, hf⟩ := zt_lt_some hf
    refine va_put (D := zt_D G) (ci := 8) (v := .int (-1)) (ty := .int) (C := RX9) (T := TX9) (N := 37) hx hb hts inX9 tyX9 tyX9_ok nmX9 hown hK hP (zt_apart hE.1) hS 94 (zt_a8 (rfl : zt_kd 94 = 8)) rfl 33 (by decide) fl190 (fun _ h9 => h9) rfl (tyX9_ok 33 (by decide)) rfl rfl (Nat.le_of_ble_eq_true rfl) dX9_asks_392 (fun H locs hP _ hS => ?_)
    rw [zt_p8_33 (rfl : zt_kd 94 = 8), ← hσ66] at hP
    refine lv_aload_n hx hb dX9_asks_395 rfl (lv_at hl 0 rfl) ?_
    refine lv_iconst (v := 0) hx hb dX9_asks_396 (by decide) ?_
    obtain ⟨σ67, hσ67, hf⟩ := zt_lt_some hf
    refine va_put (D := zt_D G) (ci := 8) (v := .int 0) (ty := .int) (C := RX9) (T := TX9) (N := 37) hx hb hts inX9 tyX9 tyX9_ok nmX9 hown hK hP (zt_apart hE.1) hS 94 (zt_a8 (rfl : zt_kd 94 = 8)) rfl 34 (by decide) fl199 (fun _ h9 => h9) rfl (tyX9_ok 34 (by decide)) rfl rfl (Nat.le_of_ble_eq_true rfl) dX9_asks_397 (fun H locs hP _ hS => ?_)
    rw [zt_p8_34 (rfl : zt_kd 94 = 8), ← hσ67] at hP
    refine lv_iconst (v := 5) hx hb dX9_asks_400 (by decide) ?_
    exact W.iret hx hb hr (fun t ht hW => ⟨⟨_, _, rfl, (Prod.mk.inj (Option.some.inj hf)), zt_go hE hP hS zt_id ht hW⟩, hS.F ht⟩) hS.2.2 dX9_asks_401
  have B353 : ∀ (rc18 : zt_St → Int32 → Int32 → Int32 → Int32 → Int32 → Option (Int32 × zt_St)) (hrc18 : ∀ (σ : zt_St) (u1 : Int32) (u2 : Int32) (u4 : Int32) (u5 : Int32) (u6 : Int32) (H : Heap) (locs : List Loc) (ls : Array Slot), rc18 σ u1 u2 u4 u5 u6 = some (r, σ1) → va_P (zt_D G) vwCl (zt_ww G σ) H → va_S (zt_A G) s.heap H locs → lv_has ls 15 [(0, .ref (zt_ad G 94)), (1, .int u1), (2, .int u2), (4, .int u4), (5, .int u5), (6, .int u6)] → W p l e (zt_R 5 113) s m ([.ref (zt_ad G 94), .int x1, .int x2, .int x3, .int x4] : List Value).toArray below meth c H locs 0 0 (MQ below (zt_Ci G r σ1) ([.ref (zt_ad G 94), .int x1, .int x2, .int x3, .int x4] : List Value).toArray s 0 0 (zt_A G)) (F0 m 18 ls [])), ∀ (σ : zt_St) (u1 : Int32) (u2 : Int32) (u4 : Int32) (u5 : Int32) (u6 : Int32) (u9 : Int32) (u10 : Int32) (H : Heap) (locs : List Loc) (ls : Array Slot), f_X9_asks_353 rc18 σ u1 u2 u4 u5 u6 u9 u10 = some (r, σ1) → va_P (zt_D G) vwCl (zt_ww G σ) H → va_S (zt_A G) s.heap H locs → lv_has ls 15 [(0, .ref (zt_ad G 94)), (1, .int u1), (2, .int u2), (4, .int u4), (5, .int u5), (6, .int u6), (9, .int u9), (10, .int u10)] → W p l e (zt_R 5 113) s m ([.ref (zt_ad G 94), .int x1, .int x2, .int x3, .int x4] : List Value).toArray below meth c H locs 0 0 (MQ below (zt_Ci G r σ1) ([.ref (zt_ad G 94), .int x1, .int x2, .int x3, .int x4] : List Value).toArray s 0 0 (zt_A G)) (F0 m 353 ls []) := by
    intro rc18 hrc18 σ u1 u2 u4 u5 u6 u9 u10 H locs ls hf hP hS hl
    unfold f_X9_asks_353 at hf
    refine lv_aload_n hx hb dX9_asks_353 rfl (lv_at hl 0 rfl) ?_
    refine lv_iload hx hb dX9_asks_354 (lv_at hl 4 rfl) ?_
    refine lv_aload_n hx hb dX9_asks_356 rfl (lv_at hl 0 rfl) ?_
    refine va_get (D := zt_D G) (ci := 8) (v := .ref (zt_ad G 107)) (C := RX9) (T := TX9) (N := 37) hx hb hts inX9 hown hK hP 94 (zt_a8 (rfl : zt_kd 94 = 8)) rfl 16 (by decide) fl54 (fun _ h9 => h9) rfl dX9_asks_357 ?_
    refine lv_iload hx hb dX9_asks_360 (lv_at hl 7 rfl) ?_
    obtain ⟨g32, hf⟩ := zt_gd_some hf
    refine va_iald hx hb hK hP 107 0 zt_a_107 rfl (zt_gI_in g32) dX9_asks_362 ?_
    obtain ⟨v33, hvv33, hf⟩ := zt_bd_some hf
    refine va_calli (va_runV (As := [.int u5, .int (σ 107 u10.toNatClampNeg)]) (rest := []) ⟨hx, hb, hml, hown, hts⟩ (m_X9_least l G (σ := σ) hvv33) (cwV 2 hts gX9_asks_X9_least rfl rfl rfl zh_X9_least ⟨Nat.le_of_ble_eq_true rfl, Nat.le_of_ble_eq_true rfl⟩) ⟨zt_blind, va_recv hK hP (ci := 8) (q0 := 94) rfl (zt_a8 (rfl : zt_kd 94 = 8)), fun U hU hW => ⟨rfl, zt_go hE hP hS zt_id hU hW⟩⟩ rfl rfl hl.1 rfl (lv_room (Nat.le_of_ble_eq_true rfl)) dX9_asks_363 ⟨Nat.zero_le _, Nat.zero_le _⟩) hS (fun _ _ h => h) (fun _ h => h) (fun r u t H locs ht hvm hw hB _ _ hS => ?_)
    rw [hw.1]; have hB : zt_B G u t := hB; rw [hw.2] at hB; have hP := zt_B.P hB ht
    refine lv_istore (lv' := [(5, .int v33), (0, .ref (zt_ad G 94)), (1, .int u1), (2, .int u2), (4, .int u4), (6, .int u6), (9, .int u9), (10, .int u10)]) hx hb dX9_asks_366 hl (by decide) rfl (fun ls hl => ?_)
    refine lv_iinc (v := (u6 + 1)) (lv' := [(6, .int (u6 + 1)), (5, .int v33), (0, .ref (zt_ad G 94)), (1, .int u1), (2, .int u2), (4, .int u4), (9, .int u9), (10, .int u10)]) hx hb dX9_asks_368 hl (k := 5) rfl rfl (by decide) rfl (fun ls hl => ?_)
    refine lv_aload_n hx hb dX9_asks_371 rfl (lv_at hl 2 rfl) ?_
    refine lv_iload hx hb dX9_asks_372 (lv_at hl 1 rfl) ?_
    obtain ⟨σ35, hσ35, hf⟩ := zt_lt_some hf
    refine va_put (D := zt_D G) (ci := 8) (v := .int v33) (ty := .int) (C := RX9) (T := TX9) (N := 37) hx hb hts inX9 tyX9 tyX9_ok nmX9 hown hK hP (zt_apart hE.1) hS 94 (zt_a8 (rfl : zt_kd 94 = 8)) rfl 34 (by decide) fl199 (fun _ h9 => h9) rfl (tyX9_ok 34 (by decide)) rfl rfl (Nat.le_of_ble_eq_true rfl) dX9_asks_374 (fun H locs hP _ hS => ?_)
    rw [zt_p8_34 (rfl : zt_kd 94 = 8), ← hσ35] at hP
    refine lv_iload hx hb dX9_asks_377 (lv_at hl 6 rfl) ?_
    refine lv_iconst (v := (-1)) hx hb dX9_asks_379 (by decide) ?_
    refine lv_icmp_eq (tgt := 390) hx hb dX9_asks_380 (by decide) (fun c36 => ?_) (fun c36 => ?_)
    · have hf := (if_pos c36).symm.trans hf
      exact B390 σ35 _ _ _ hf hP hS (lv_sub hl [2] rfl)
    · have hf := (if_neg c36).symm.trans hf
      refine lv_iload hx hb dX9_asks_383 (lv_at hl 0 rfl) ?_
      refine lv_bipush (v := 8) hx hb dX9_asks_385 (by decide +kernel) ?_
      refine lv_icmp_le (tgt := 402) hx hb dX9_asks_387 (by decide) (fun c37 => ?_) (fun c37 => ?_)
      · have hf := (if_pos c37).symm.trans hf
        refine lv_aload_n hx hb dX9_asks_402 rfl (lv_at hl 2 rfl) ?_
        refine lv_iload hx hb dX9_asks_403 (lv_at hl 6 rfl) ?_
        obtain ⟨σ38, hσ38, hf⟩ := zt_lt_some hf
        refine va_put (D := zt_D G) (ci := 8) (v := .int u9) (ty := .int) (C := RX9) (T := TX9) (N := 37) hx hb hts inX9 tyX9 tyX9_ok nmX9 hown hK hP (zt_apart hE.1) hS 94 (zt_a8 (rfl : zt_kd 94 = 8)) rfl 33 (by decide) fl190 (fun _ h9 => h9) rfl (tyX9_ok 33 (by decide)) rfl rfl (Nat.le_of_ble_eq_true rfl) dX9_asks_405 (fun H locs hP _ hS => ?_)
        rw [zt_p8_33 (rfl : zt_kd 94 = 8), ← hσ38] at hP
        refine lv_iload hx hb dX9_asks_408 (lv_at hl 6 rfl) ?_
        refine lv_aload_n hx hb dX9_asks_410 rfl (lv_at hl 2 rfl) ?_
        refine va_get (D := zt_D G) (ci := 8) (v := .ref (zt_ad G 95)) (C := RX9) (T := TX9) (N := 37) hx hb hts inX9 hown hK hP 94 (zt_a8 (rfl : zt_kd 94 = 8)) rfl 3 (by decide) fl13 (fun _ h9 => h9) rfl dX9_asks_411 ?_
        refine lv_iload_n hx hb dX9_asks_414 rfl (lv_at hl 4 rfl) ?_
        obtain ⟨g39, hf⟩ := zt_gd_some hf
        refine va_iald hx hb hK hP 95 0 zt_a_95 rfl (zt_gI_in g39) dX9_asks_415 ?_
        obtain ⟨v40, hvv40, hf⟩ := zt_bd_some hf
        refine va_calli (va_runS (As := [.int u9, .int (σ38 95 u2.toNatClampNeg)]) (rest := []) ⟨hx, hb, hml, hown, hts⟩ (m_X9_isUnder l G (σ := σ38) hvv40) (va_cwS 2 hts gX9_asks_X9_isUnder rfl rfl rfl zh_X9_isUnder ⟨Nat.le_of_ble_eq_true rfl, Nat.le_of_ble_eq_true rfl⟩) ⟨zt_blind, fun U hU hW => ⟨rfl, zt_go hE hP hS zt_id hU hW⟩⟩ rfl rfl hl.1 rfl (lv_room (Nat.le_of_ble_eq_true rfl)) dX9_asks_416 ⟨Nat.zero_le _, Nat.zero_le _⟩) hS (fun _ _ h => h) (fun _ h => h) (fun r u t H locs ht hvm hw hB _ _ hS => ?_)
        rw [hw.1]; have hB : zt_B G u t := hB; rw [hw.2] at hB; have hP := zt_B.P hB ht
        refine lv_if_ne (tgt := 424) hx hb dX9_asks_419 (by decide) (fun c42 => ?_) (fun c42 => ?_)
        · have hf := (if_neg c42).symm.trans hf
          refine lv_goto (tgt := 18) hx hb dX9_asks_424 (by decide) ?_
          exact hrc18 σ38 u1 u2 u4 v33 (u6 + 1) _ _ _ hf hP hS (lv_sub hl [2, 3, 4, 5, 1, 0] rfl)
        · have hf := (if_pos c42).symm.trans hf
          refine lv_iconst (v := 4) hx hb dX9_asks_422 (by decide) ?_
          exact W.iret hx hb hr (fun t ht hW => ⟨⟨_, _, rfl, (Prod.mk.inj (Option.some.inj hf)), zt_go hE hP hS zt_id ht hW⟩, hS.F ht⟩) hS.2.2 dX9_asks_423
      · have hf := (if_neg c37).symm.trans hf
        exact B390 σ35 _ _ _ hf hP hS (lv_sub hl [2] rfl)
  have B347 : ∀ (σ : zt_St) (H : Heap) (locs : List Loc) (ls : Array Slot), f_X9_asks_347 σ = some (r, σ1) → va_P (zt_D G) vwCl (zt_ww G σ) H → va_S (zt_A G) s.heap H locs → lv_has ls 15 [] → W p l e (zt_R 5 113) s m ([.ref (zt_ad G 94), .int x1, .int x2, .int x3, .int x4] : List Value).toArray below meth c H locs 0 0 (MQ below (zt_Ci G r σ1) ([.ref (zt_ad G 94), .int x1, .int x2, .int x3, .int x4] : List Value).toArray s 0 0 (zt_A G)) (F0 m 347 ls []) := by
    intro σ H locs ls hf hP hS hl
    unfold f_X9_asks_347 at hf
    refine lv_iconst (v := 1) hx hb dX9_asks_347 (by decide) ?_
    refine lv_goto (tgt := 352) hx hb dX9_asks_348 (by decide) ?_
    exact W.iret hx hb hr (fun t ht hW => ⟨⟨_, _, rfl, (Prod.mk.inj (Option.some.inj hf)), zt_go hE hP hS zt_id ht hW⟩, hS.F ht⟩) hS.2.2 dX9_asks_352
  have B307 : ∀ (rc18 : zt_St → Int32 → Int32 → Int32 → Int32 → Int32 → Option (Int32 × zt_St)) (hrc18 : ∀ (σ : zt_St) (u1 : Int32) (u2 : Int32) (u4 : Int32) (u5 : Int32) (u6 : Int32) (H : Heap) (locs : List Loc) (ls : Array Slot), rc18 σ u1 u2 u4 u5 u6 = some (r, σ1) → va_P (zt_D G) vwCl (zt_ww G σ) H → va_S (zt_A G) s.heap H locs → lv_has ls 15 [(0, .ref (zt_ad G 94)), (1, .int u1), (2, .int u2), (4, .int u4), (5, .int u5), (6, .int u6)] → W p l e (zt_R 5 113) s m ([.ref (zt_ad G 94), .int x1, .int x2, .int x3, .int x4] : List Value).toArray below meth c H locs 0 0 (MQ below (zt_Ci G r σ1) ([.ref (zt_ad G 94), .int x1, .int x2, .int x3, .int x4] : List Value).toArray s 0 0 (zt_A G)) (F0 m 18 ls [])), ∀ (σ : zt_St) (u1 : Int32) (u2 : Int32) (u4 : Int32) (u5 : Int32) (u6 : Int32) (u9 : Int32) (u10 : Int32) (u11 : Int32) (u12 : Int32) (H : Heap) (locs : List Loc) (ls : Array Slot), f_X9_asks_307 rc18 σ u1 u2 u4 u5 u6 u9 u10 u11 u12 = some (r, σ1) → va_P (zt_D G) vwCl (zt_ww G σ) H → va_S (zt_A G) s.heap H locs → lv_has ls 15 [(0, .ref (zt_ad G 94)), (1, .int u1), (2, .int u2), (4, .int u4), (5, .int u5), (6, .int u6), (9, .int u9), (10, .int u10), (11, .int u11), (12, .int u12)] → W p l e (zt_R 5 113) s m ([.ref (zt_ad G 94), .int x1, .int x2, .int x3, .int x4] : List Value).toArray below meth c H locs 0 0 (MQ below (zt_Ci G r σ1) ([.ref (zt_ad G 94), .int x1, .int x2, .int x3, .int x4] : List Value).toArray s 0 0 (zt_A G)) (F0 m 307 ls []) := by
    intro rc18 hrc18 σ u1 u2 u4 u5 u6 u9 u10 u11 u12 H locs ls hf hP hS hl
    unfold f_X9_asks_307 at hf
    refine lv_iload hx hb dX9_asks_307 (lv_at hl 7 rfl) ?_
    refine lv_iconst (v := (-1)) hx hb dX9_asks_309 (by decide) ?_
    refine lv_icmp_ne (tgt := 353) hx hb dX9_asks_310 (by decide) (fun c57 => ?_) (fun c57 => ?_)
    · have hf := (if_neg c57).symm.trans hf
      exact B353 rc18 hrc18 σ u1 u2 u4 u5 u6 u9 u10 _ _ _ hf hP hS (lv_sub hl [0, 1, 2, 3, 4, 5, 6, 7] rfl)
    · have hf := (if_pos c57).symm.trans hf
      refine lv_aload_n hx hb dX9_asks_313 rfl (lv_at hl 0 rfl) ?_
      refine lv_aload_n hx hb dX9_asks_314 rfl (lv_at hl 0 rfl) ?_
      refine lv_iload hx hb dX9_asks_315 (lv_at hl 4 rfl) ?_
      refine lv_aload_n hx hb dX9_asks_317 rfl (lv_at hl 0 rfl) ?_
      refine va_get (D := zt_D G) (ci := 8) (v := .ref (zt_ad G 96)) (C := RX9) (T := TX9) (N := 37) hx hb hts inX9 hown hK hP 94 (zt_a8 (rfl : zt_kd 94 = 8)) rfl 4 (by decide) fl17 (fun _ h9 => h9) rfl dX9_asks_318 ?_
      refine lv_iload_n hx hb dX9_asks_321 rfl (lv_at hl 2 rfl) ?_
      obtain ⟨g58, hf⟩ := zt_gd_some hf
      refine va_iald hx hb hK hP 96 0 zt_a_96 rfl (zt_gI_in g58) dX9_asks_322 ?_
      obtain ⟨v59, hvv59, hf⟩ := zt_bd_some hf
      refine va_calli (va_runV (As := [.int u5, .int (σ 96 u2.toNatClampNeg)]) (rest := [.ref (zt_ad G 94)]) ⟨hx, hb, hml, hown, hts⟩ (m_X9_least l G (σ := σ) hvv59) (cwV 2 hts gX9_asks_X9_least rfl rfl rfl zh_X9_least ⟨Nat.le_of_ble_eq_true rfl, Nat.le_of_ble_eq_true rfl⟩) ⟨zt_blind, va_recv hK hP (ci := 8) (q0 := 94) rfl (zt_a8 (rfl : zt_kd 94 = 8)), fun U hU hW => ⟨rfl, zt_go hE hP hS zt_id hU hW⟩⟩ rfl rfl hl.1 rfl (lv_room (Nat.le_of_ble_eq_true rfl)) dX9_asks_323 ⟨Nat.zero_le _, Nat.zero_le _⟩) hS (fun _ _ h => h) (fun _ h => h) (fun r u t H locs ht hvm hw hB _ _ hS => ?_)
      rw [hw.1]; have hB : zt_B G u t := hB; rw [hw.2] at hB; have hP := zt_B.P hB ht
      obtain ⟨σ61, hσ61, hf⟩ := zt_lt_some hf
      refine va_put (D := zt_D G) (ci := 8) (v := .int v59) (ty := .int) (C := RX9) (T := TX9) (N := 37) hx hb hts inX9 tyX9 tyX9_ok nmX9 hown hK hP (zt_apart hE.1) hS 94 (zt_a8 (rfl : zt_kd 94 = 8)) rfl 34 (by decide) fl199 (fun _ h9 => h9) rfl (tyX9_ok 34 (by decide)) rfl rfl (Nat.le_of_ble_eq_true rfl) dX9_asks_326 (fun H locs hP _ hS => ?_)
      rw [zt_p8_34 (rfl : zt_kd 94 = 8), ← hσ61] at hP
      refine lv_iload hx hb dX9_asks_329 (lv_at hl 8 rfl) ?_
      refine lv_if_ne (tgt := 347) hx hb dX9_asks_331 (by decide) (fun c62 => ?_) (fun c62 => ?_)
      · have hf := (if_neg c62).symm.trans hf
        exact B347 σ61 _ _ _ hf hP hS (lv_sub hl [] rfl)
      · have hf := (if_pos c62).symm.trans hf
        refine lv_aload_n hx hb dX9_asks_334 rfl (lv_at hl 0 rfl) ?_
        refine lv_iload_n hx hb dX9_asks_335 rfl (lv_at hl 1 rfl) ?_
        refine lv_iload hx hb dX9_asks_336 (lv_at hl 9 rfl) ?_
        refine lv_bipush (v := 10) hx hb dX9_asks_338 (by decide +kernel) ?_
        refine lv_idiv hx hb dX9_asks_340 (by decide) ?_
        obtain ⟨v63, hvv63, hf⟩ := zt_bd_some hf
        refine va_calli (va_runV (As := [.int u1, .int (u12 / 10)]) (rest := []) ⟨hx, hb, hml, hown, hts⟩ (m_X9_isStarThere l G (σ := σ61) hvv63) (cwV 2 hts gX9_asks_X9_isStarThere rfl rfl rfl zh_X9_isStarThere ⟨Nat.le_of_ble_eq_true rfl, Nat.le_of_ble_eq_true rfl⟩) ⟨zt_blind, va_recv hK hP (ci := 8) (q0 := 94) rfl (zt_a8 (rfl : zt_kd 94 = 8)), fun U hU hW => ⟨rfl, zt_go hE hP hS zt_id hU hW⟩⟩ rfl rfl hl.1 rfl (lv_room (Nat.le_of_ble_eq_true rfl)) dX9_asks_341 ⟨Nat.zero_le _, Nat.zero_le _⟩) hS (fun _ _ h => h) (fun _ h => h) (fun r u t H locs ht hvm hw hB _ _ hS => ?_)
        rw [hw.1]; have hB : zt_B G u t := hB; rw [hw.2] at hB; have hP := zt_B.P hB ht
        refine lv_if_eq (tgt := 351) hx hb dX9_asks_344 (by decide) (fun c65 => ?_) (fun c65 => ?_)
        · have hf := (if_pos c65).symm.trans hf
          refine lv_iconst (v := 2) hx hb dX9_asks_351 (by decide) ?_
          exact W.iret hx hb hr (fun t ht hW => ⟨⟨_, _, rfl, (Prod.mk.inj (Option.some.inj hf)), zt_go hE hP hS zt_id ht hW⟩, hS.F ht⟩) hS.2.2 dX9_asks_352
        · have hf := (if_neg c65).symm.trans hf
          exact B347 σ61 _ _ _ hf hP hS (lv_sub hl [] rfl)
  have B252 : ∀ (rc18 : zt_St → Int32 → Int32 → Int32 → Int32 → Int32 → Option (Int32 × zt_St)) (hrc18 : ∀ (σ : zt_St) (u1 : Int32) (u2 : Int32) (u4 : Int32) (u5 : Int32) (u6 : Int32) (H : Heap) (locs : List Loc) (ls : Array Slot), rc18 σ u1 u2 u4 u5 u6 = some (r, σ1) → va_P (zt_D G) vwCl (zt_ww G σ) H → va_S (zt_A G) s.heap H locs → lv_has ls 15 [(0, .ref (zt_ad G 94)), (1, .int u1), (2, .int u2), (4, .int u4), (5, .int u5), (6, .int u6)] → W p l e (zt_R 5 113) s m ([.ref (zt_ad G 94), .int x1, .int x2, .int x3, .int x4] : List Value).toArray below meth c H locs 0 0 (MQ below (zt_Ci G r σ1) ([.ref (zt_ad G 94), .int x1, .int x2, .int x3, .int x4] : List Value).toArray s 0 0 (zt_A G)) (F0 m 18 ls [])), ∀ (σ : zt_St) (u1 : Int32) (u2 : Int32) (u4 : Int32) (u5 : Int32) (u6 : Int32) (u9 : Int32) (u10 : Int32) (u11 : Int32) (u12 : Int32) (u13 : Int32) (u14 : Int32) (H : Heap) (locs : List Loc) (ls : Array Slot), f_X9_asks_252 rc18 σ u1 u2 u4 u5 u6 u9 u10 u11 u12 u13 u14 = some (r, σ1) → va_P (zt_D G) vwCl (zt_ww G σ) H → va_S (zt_A G) s.heap H locs → lv_has ls 15 [(0, .ref (zt_ad G 94)), (1, .int u1), (2, .int u2), (4, .int u4), (5, .int u5), (6, .int u6), (9, .int u9), (10, .int u10), (11, .int u11), (12, .int u12), (13, .int u13), (14, .int u14)] → W p l e (zt_R 5 113) s m ([.ref (zt_ad G 94), .int x1, .int x2, .int x3, .int x4] : List Value).toArray below meth c H locs 0 0 (MQ below (zt_Ci G r σ1) ([.ref (zt_ad G 94), .int x1, .int x2, .int x3, .int x4] : List Value).toArray s 0 0 (zt_A G)) (F0 m 252 ls []) := by
    intro rc18 hrc18 σ u1 u2 u4 u5 u6 u9 u10 u11 u12 u13 u14 H locs ls hf hP hS hl
    unfold f_X9_asks_252 at hf
    refine lv_iload hx hb dX9_asks_252 (lv_at hl 10 rfl) ?_
    refine lv_iconst (v := (-1)) hx hb dX9_asks_254 (by decide) ?_
    refine lv_icmp_eq (tgt := 288) hx hb dX9_asks_255 (by decide) (fun c48 => ?_) (fun c48 => ?_)
    · have hf := (if_pos c48).symm.trans hf
      refine lv_iload hx hb dX9_asks_288 (lv_at hl 11 rfl) ?_
      refine lv_iconst (v := (-1)) hx hb dX9_asks_290 (by decide) ?_
      refine lv_icmp_eq (tgt := 307) hx hb dX9_asks_291 (by decide) (fun c49 => ?_) (fun c49 => ?_)
      · have hf := (if_pos c49).symm.trans hf
        exact B307 rc18 hrc18 σ u1 u2 u4 u5 u6 u9 u10 u11 u12 _ _ _ hf hP hS (lv_sub hl [0, 1, 2, 3, 4, 5, 6, 7, 8, 9] rfl)
      · have hf := (if_neg c49).symm.trans hf
        refine lv_iload hx hb dX9_asks_294 (lv_at hl 11 rfl) ?_
        refine lv_istore (lv' := [(10, .int u14), (0, .ref (zt_ad G 94)), (1, .int u1), (2, .int u2), (4, .int u4), (5, .int u5), (6, .int u6), (9, .int u9), (11, .int u11), (12, .int u12), (13, .int u13), (14, .int u14)]) hx hb dX9_asks_296 hl (by decide) rfl (fun ls hl => ?_)
        refine lv_aload_n hx hb dX9_asks_298 rfl (lv_at hl 1 rfl) ?_
        refine va_get (D := zt_D G) (ci := 8) (v := .ref (zt_ad G 106)) (C := RX9) (T := TX9) (N := 37) hx hb hts inX9 hown hK hP 94 (zt_a8 (rfl : zt_kd 94 = 8)) rfl 15 (by decide) fl51 (fun _ h9 => h9) rfl dX9_asks_299 ?_
        refine lv_iload hx hb dX9_asks_302 (lv_at hl 11 rfl) ?_
        obtain ⟨g50, hf⟩ := zt_gd_some hf
        refine va_iald hx hb hK hP 106 0 zt_a_106 rfl (zt_gI_in g50) dX9_asks_304 ?_
        refine lv_istore (lv' := [(9, .int (σ 106 u14.toNatClampNeg)), (10, .int u14), (0, .ref (zt_ad G 94)), (1, .int u1), (2, .int u2), (4, .int u4), (5, .int u5), (6, .int u6), (11, .int u11), (12, .int u12), (13, .int u13), (14, .int u14)]) hx hb dX9_asks_305 hl (by decide) rfl (fun ls hl => ?_)
        exact B307 rc18 hrc18 σ u1 u2 u4 u5 u6 (σ 106 u14.toNatClampNeg) u14 u11 u12 _ _ _ hf hP hS (lv_sub hl [2, 3, 4, 5, 6, 7, 0, 1, 8, 9] rfl)
    · have hf := (if_neg c48).symm.trans hf
      refine lv_aload_n hx hb dX9_asks_258 rfl (lv_at hl 0 rfl) ?_
      refine lv_aload_n hx hb dX9_asks_259 rfl (lv_at hl 0 rfl) ?_
      refine va_get (D := zt_D G) (ci := 8) (v := .ref (zt_ad G 106)) (C := RX9) (T := TX9) (N := 37) hx hb hts inX9 hown hK hP 94 (zt_a8 (rfl : zt_kd 94 = 8)) rfl 15 (by decide) fl51 (fun _ h9 => h9) rfl dX9_asks_260 ?_
      refine lv_iload hx hb dX9_asks_263 (lv_at hl 10 rfl) ?_
      obtain ⟨g51, hf⟩ := zt_gd_some hf
      refine va_iald hx hb hK hP 106 0 zt_a_106 rfl (zt_gI_in g51) dX9_asks_265 ?_
      obtain ⟨σ52, hσ52, hf⟩ := zt_lt_some hf
      refine va_put (D := zt_D G) (ci := 8) (v := .int (σ 106 u13.toNatClampNeg)) (ty := .int) (C := RX9) (T := TX9) (N := 37) hx hb hts inX9 tyX9 tyX9_ok nmX9 hown hK hP (zt_apart hE.1) hS 94 (zt_a8 (rfl : zt_kd 94 = 8)) rfl 32 (by decide) fl193 (fun _ h9 => h9) rfl (tyX9_ok 32 (by decide)) rfl rfl (Nat.le_of_ble_eq_true rfl) dX9_asks_266 (fun H locs hP _ hS => ?_)
      rw [zt_p8_32 (rfl : zt_kd 94 = 8), ← hσ52] at hP
      refine lv_aload_n hx hb dX9_asks_269 rfl (lv_at hl 0 rfl) ?_
      refine lv_aload_n hx hb dX9_asks_270 rfl (lv_at hl 0 rfl) ?_
      refine lv_iload hx hb dX9_asks_271 (lv_at hl 4 rfl) ?_
      refine lv_aload_n hx hb dX9_asks_273 rfl (lv_at hl 0 rfl) ?_
      refine va_get (D := zt_D G) (ci := 8) (v := .ref (zt_ad G 107)) (C := RX9) (T := TX9) (N := 37) hx hb hts inX9 hown hK hP 94 (zt_a8 (rfl : zt_kd 94 = 8)) rfl 16 (by decide) fl54 (fun _ h9 => h9) rfl dX9_asks_274 ?_
      refine lv_iload hx hb dX9_asks_277 (lv_at hl 10 rfl) ?_
      obtain ⟨g53, hf⟩ := zt_gd_some hf
      refine va_iald hx hb hK hP 107 0 zt_a_107 rfl (zt_gI_in g53) dX9_asks_279 ?_
      obtain ⟨v54, hvv54, hf⟩ := zt_bd_some hf
      refine va_calli (va_runV (As := [.int u5, .int (σ52 107 u13.toNatClampNeg)]) (rest := [.ref (zt_ad G 94)]) ⟨hx, hb, hml, hown, hts⟩ (m_X9_least l G (σ := σ52) hvv54) (cwV 2 hts gX9_asks_X9_least rfl rfl rfl zh_X9_least ⟨Nat.le_of_ble_eq_true rfl, Nat.le_of_ble_eq_true rfl⟩) ⟨zt_blind, va_recv hK hP (ci := 8) (q0 := 94) rfl (zt_a8 (rfl : zt_kd 94 = 8)), fun U hU hW => ⟨rfl, zt_go hE hP hS zt_id hU hW⟩⟩ rfl rfl hl.1 rfl (lv_room (Nat.le_of_ble_eq_true rfl)) dX9_asks_280 ⟨Nat.zero_le _, Nat.zero_le _⟩) hS (fun _ _ h => h) (fun _ h => h) (fun r u t H locs ht hvm hw hB _ _ hS => ?_)
      rw [hw.1]; have hB : zt_B G u t := hB; rw [hw.2] at hB; have hP := zt_B.P hB ht
      obtain ⟨σ56, hσ56, hf⟩ := zt_lt_some hf
      refine va_put (D := zt_D G) (ci := 8) (v := .int v54) (ty := .int) (C := RX9) (T := TX9) (N := 37) hx hb hts inX9 tyX9 tyX9_ok nmX9 hown hK hP (zt_apart hE.1) hS 94 (zt_a8 (rfl : zt_kd 94 = 8)) rfl 34 (by decide) fl199 (fun _ h9 => h9) rfl (tyX9_ok 34 (by decide)) rfl rfl (Nat.le_of_ble_eq_true rfl) dX9_asks_283 (fun H locs hP _ hS => ?_)
      rw [zt_p8_34 (rfl : zt_kd 94 = 8), ← hσ56] at hP
      refine lv_iconst (v := 0) hx hb dX9_asks_286 (by decide) ?_
      exact W.iret hx hb hr (fun t ht hW => ⟨⟨_, _, rfl, (Prod.mk.inj (Option.some.inj hf)), zt_go hE hP hS zt_id ht hW⟩, hS.F ht⟩) hS.2.2 dX9_asks_287
  have B219 : ∀ (rc18 : zt_St → Int32 → Int32 → Int32 → Int32 → Int32 → Option (Int32 × zt_St)) (hrc18 : ∀ (σ : zt_St) (u1 : Int32) (u2 : Int32) (u4 : Int32) (u5 : Int32) (u6 : Int32) (H : Heap) (locs : List Loc) (ls : Array Slot), rc18 σ u1 u2 u4 u5 u6 = some (r, σ1) → va_P (zt_D G) vwCl (zt_ww G σ) H → va_S (zt_A G) s.heap H locs → lv_has ls 15 [(0, .ref (zt_ad G 94)), (1, .int u1), (2, .int u2), (4, .int u4), (5, .int u5), (6, .int u6)] → W p l e (zt_R 5 113) s m ([.ref (zt_ad G 94), .int x1, .int x2, .int x3, .int x4] : List Value).toArray below meth c H locs 0 0 (MQ below (zt_Ci G r σ1) ([.ref (zt_ad G 94), .int x1, .int x2, .int x3, .int x4] : List Value).toArray s 0 0 (zt_A G)) (F0 m 18 ls [])), ∀ (σ : zt_St) (y0 : Int32) (u1 : Int32) (u2 : Int32) (u4 : Int32) (u5 : Int32) (u6 : Int32) (u9 : Int32) (u10 : Int32) (u11 : Int32) (H : Heap) (locs : List Loc) (ls : Array Slot), f_X9_asks_219 rc18 σ y0 u1 u2 u4 u5 u6 u9 u10 u11 = some (r, σ1) → va_P (zt_D G) vwCl (zt_ww G σ) H → va_S (zt_A G) s.heap H locs → lv_has ls 15 [(0, .ref (zt_ad G 94)), (1, .int u1), (2, .int u2), (4, .int u4), (5, .int u5), (6, .int u6), (9, .int u9), (10, .int u10), (11, .int u11)] → W p l e (zt_R 5 113) s m ([.ref (zt_ad G 94), .int x1, .int x2, .int x3, .int x4] : List Value).toArray below meth c H locs 0 0 (MQ below (zt_Ci G r σ1) ([.ref (zt_ad G 94), .int x1, .int x2, .int x3, .int x4] : List Value).toArray s 0 0 (zt_A G)) (F0 m 219 ls [.int y0]) := by
    intro rc18 hrc18 σ y0 u1 u2 u4 u5 u6 u9 u10 u11 H locs ls hf hP hS hl
    unfold f_X9_asks_219 at hf
    refine lv_istore (lv' := [(12, .int y0), (0, .ref (zt_ad G 94)), (1, .int u1), (2, .int u2), (4, .int u4), (5, .int u5), (6, .int u6), (9, .int u9), (10, .int u10), (11, .int u11)]) hx hb dX9_asks_219 hl (by decide) rfl (fun ls hl => ?_)
    refine lv_aload_n hx hb dX9_asks_221 rfl (lv_at hl 1 rfl) ?_
    refine lv_iload_n hx hb dX9_asks_222 rfl (lv_at hl 2 rfl) ?_
    refine lv_iload hx hb dX9_asks_223 (lv_at hl 0 rfl) ?_
    refine lv_iload hx hb dX9_asks_225 (lv_at hl 4 rfl) ?_
    obtain ⟨v26, hvv26, hf⟩ := zt_bd_some hf
    refine va_calli (va_runV (As := [.int u1, .int y0, .int u4]) (rest := []) ⟨hx, hb, hml, hown, hts⟩ (m_X9_find l G (σ := σ) hvv26) (cwV 3 hts gX9_asks_X9_find rfl rfl rfl zh_X9_find ⟨Nat.le_of_ble_eq_true rfl, Nat.le_of_ble_eq_true rfl⟩) ⟨zt_blind, va_recv hK hP (ci := 8) (q0 := 94) rfl (zt_a8 (rfl : zt_kd 94 = 8)), fun U hU hW => ⟨rfl, zt_go hE hP hS zt_id hU hW⟩⟩ rfl rfl hl.1 rfl (lv_room (Nat.le_of_ble_eq_true rfl)) dX9_asks_227 ⟨Nat.zero_le _, Nat.zero_le _⟩) hS (fun _ _ h => h) (fun _ h => h) (fun r u t H locs ht hvm hw hB _ _ hS => ?_)
    rw [hw.1]; have hB : zt_B G u t := hB; rw [hw.2] at hB; have hP := zt_B.P hB ht
    refine lv_istore (lv' := [(13, .int v26), (12, .int y0), (0, .ref (zt_ad G 94)), (1, .int u1), (2, .int u2), (4, .int u4), (5, .int u5), (6, .int u6), (9, .int u9), (10, .int u10), (11, .int u11)]) hx hb dX9_asks_230 hl (by decide) rfl (fun ls hl => ?_)
    refine lv_aload_n hx hb dX9_asks_232 rfl (lv_at hl 2 rfl) ?_
    refine lv_iload_n hx hb dX9_asks_233 rfl (lv_at hl 3 rfl) ?_
    refine lv_iload hx hb dX9_asks_234 (lv_at hl 1 rfl) ?_
    refine lv_iconst (v := 1) hx hb dX9_asks_236 (by decide) ?_
    obtain ⟨v28, hvv28, hf⟩ := zt_bd_some hf
    refine va_calli (va_runV (As := [.int u1, .int y0, .int 1]) (rest := []) ⟨hx, hb, hml, hown, hts⟩ (m_X9_find l G (σ := σ) hvv28) (cwV 3 hts gX9_asks_X9_find rfl rfl rfl zh_X9_find ⟨Nat.le_of_ble_eq_true rfl, Nat.le_of_ble_eq_true rfl⟩) ⟨zt_blind, va_recv hK hP (ci := 8) (q0 := 94) rfl (zt_a8 (rfl : zt_kd 94 = 8)), fun U hU hW => ⟨rfl, zt_go hE hP hS zt_id hU hW⟩⟩ rfl rfl hl.1 rfl (lv_room (Nat.le_of_ble_eq_true rfl)) dX9_asks_237 ⟨Nat.zero_le _, Nat.zero_le _⟩) hS (fun _ _ h => h) (fun _ h => h) (fun r u t H locs ht hvm hw hB _ _ hS => ?_)
    rw [hw.1]; have hB : zt_B G u t := hB; rw [hw.2] at hB; have hP := zt_B.P hB ht
    refine lv_istore (lv' := [(14, .int v28), (13, .int v26), (12, .int y0), (0, .ref (zt_ad G 94)), (1, .int u1), (2, .int u2), (4, .int u4), (5, .int u5), (6, .int u6), (9, .int u9), (10, .int u10), (11, .int u11)]) hx hb dX9_asks_240 hl (by decide) rfl (fun ls hl => ?_)
    refine lv_iload hx hb dX9_asks_242 (lv_at hl 2 rfl) ?_
    refine lv_if_gt (tgt := 252) hx hb dX9_asks_244 (by decide) (fun c30 => ?_) (fun c30 => ?_)
    · have hf := (if_pos c30).symm.trans hf
      exact B252 rc18 hrc18 σ u1 u2 u4 u5 u6 u9 u10 u11 y0 v26 v28 _ _ _ hf hP hS (lv_sub hl [3, 4, 5, 6, 7, 8, 9, 10, 11, 2, 1, 0] rfl)
    · have hf := (if_neg c30).symm.trans hf
      refine lv_iload hx hb dX9_asks_247 (lv_at hl 11 rfl) ?_
      refine lv_if_eq (tgt := 307) hx hb dX9_asks_249 (by decide) (fun c31 => ?_) (fun c31 => ?_)
      · have hf := (if_pos c31).symm.trans hf
        exact B307 rc18 hrc18 σ u1 u2 u4 u5 u6 u9 u10 u11 y0 _ _ _ hf hP hS (lv_sub hl [3, 4, 5, 6, 7, 8, 9, 10, 11, 2] rfl)
      · have hf := (if_neg c31).symm.trans hf
        exact B252 rc18 hrc18 σ u1 u2 u4 u5 u6 u9 u10 u11 y0 v26 v28 _ _ _ hf hP hS (lv_sub hl [3, 4, 5, 6, 7, 8, 9, 10, 11, 2, 1, 0] rfl)
  have B127 : ∀ (rc18 : zt_St → Int32 → Int32 → Int32 → Int32 → Int32 → Option (Int32 × zt_St)) (hrc18 : ∀ (σ : zt_St) (u1 : Int32) (u2 : Int32) (u4 : Int32) (u5 : Int32) (u6 : Int32) (H : Heap) (locs : List Loc) (ls : Array Slot), rc18 σ u1 u2 u4 u5 u6 = some (r, σ1) → va_P (zt_D G) vwCl (zt_ww G σ) H → va_S (zt_A G) s.heap H locs → lv_has ls 15 [(0, .ref (zt_ad G 94)), (1, .int u1), (2, .int u2), (4, .int u4), (5, .int u5), (6, .int u6)] → W p l e (zt_R 5 113) s m ([.ref (zt_ad G 94), .int x1, .int x2, .int x3, .int x4] : List Value).toArray below meth c H locs 0 0 (MQ below (zt_Ci G r σ1) ([.ref (zt_ad G 94), .int x1, .int x2, .int x3, .int x4] : List Value).toArray s 0 0 (zt_A G)) (F0 m 18 ls [])), ∀ (σ : zt_St) (u1 : Int32) (u2 : Int32) (u4 : Int32) (u5 : Int32) (u6 : Int32) (H : Heap) (locs : List Loc) (ls : Array Slot), f_X9_asks_127 rc18 σ u1 u2 u4 u5 u6 = some (r, σ1) → va_P (zt_D G) vwCl (zt_ww G σ) H → va_S (zt_A G) s.heap H locs → lv_has ls 15 [(0, .ref (zt_ad G 94)), (1, .int u1), (2, .int u2), (4, .int u4), (5, .int u5), (6, .int u6)] → W p l e (zt_R 5 113) s m ([.ref (zt_ad G 94), .int x1, .int x2, .int x3, .int x4] : List Value).toArray below meth c H locs 0 0 (MQ below (zt_Ci G r σ1) ([.ref (zt_ad G 94), .int x1, .int x2, .int x3, .int x4] : List Value).toArray s 0 0 (zt_A G)) (F0 m 127 ls []) := by
    intro rc18 hrc18 σ u1 u2 u4 u5 u6 H locs ls hf hP hS hl
    unfold f_X9_asks_127 at hf
    refine lv_aload_n hx hb dX9_asks_127 rfl (lv_at hl 0 rfl) ?_
    refine lv_iload_n hx hb dX9_asks_128 rfl (lv_at hl 1 rfl) ?_
    refine lv_aload_n hx hb dX9_asks_129 rfl (lv_at hl 0 rfl) ?_
    refine va_get (D := zt_D G) (ci := 8) (v := .int (σ 94 33)) (C := RX9) (T := TX9) (N := 37) hx hb hts inX9 hown hK hP 94 (zt_a8 (rfl : zt_kd 94 = 8)) rfl 33 (by decide) fl190 (fun _ h9 => h9) rfl dX9_asks_130 ?_
    obtain ⟨v10, hvv10, hf⟩ := zt_bd_some hf
    refine va_calli (va_runV (As := [.int u1, .int (σ 94 33)]) (rest := []) ⟨hx, hb, hml, hown, hts⟩ (m_X9_treeAbove l G (σ := σ) hvv10) (cwV 2 hts gX9_asks_X9_treeAbove rfl rfl rfl zh_X9_treeAbove ⟨Nat.le_of_ble_eq_true rfl, Nat.le_of_ble_eq_true rfl⟩) ⟨zt_blind, va_recv hK hP (ci := 8) (q0 := 94) rfl (zt_a8 (rfl : zt_kd 94 = 8)), fun U hU hW => ⟨rfl, zt_go hE hP hS zt_id hU hW⟩⟩ rfl rfl hl.1 rfl (lv_room (Nat.le_of_ble_eq_true rfl)) dX9_asks_133 ⟨Nat.zero_le _, Nat.zero_le _⟩) hS (fun _ _ h => h) (fun _ h => h) (fun r u t H locs ht hvm hw hB _ _ hS => ?_)
    rw [hw.1]; have hB : zt_B G u t := hB; rw [hw.2] at hB; have hP := zt_B.P hB ht
    refine lv_istore (lv' := [(8, .int v10), (0, .ref (zt_ad G 94)), (1, .int u1), (2, .int u2), (4, .int u4), (5, .int u5), (6, .int u6)]) hx hb dX9_asks_136 hl (by decide) rfl (fun ls hl => ?_)
    refine lv_iconst (v := (-1)) hx hb dX9_asks_138 (by decide) ?_
    refine lv_istore (lv' := [(9, .int (-1)), (8, .int v10), (0, .ref (zt_ad G 94)), (1, .int u1), (2, .int u2), (4, .int u4), (5, .int u5), (6, .int u6)]) hx hb dX9_asks_139 hl (by decide) rfl (fun ls hl => ?_)
    refine lv_iconst (v := (-1)) hx hb dX9_asks_141 (by decide) ?_
    refine lv_istore (lv' := [(10, .int (-1)), (9, .int (-1)), (8, .int v10), (0, .ref (zt_ad G 94)), (1, .int u1), (2, .int u2), (4, .int u4), (5, .int u5), (6, .int u6)]) hx hb dX9_asks_142 hl (by decide) rfl (fun ls hl => ?_)
    refine lv_iload hx hb dX9_asks_144 (lv_at hl 2 rfl) ?_
    refine lv_iconst (v := (-1)) hx hb dX9_asks_146 (by decide) ?_
    refine lv_icmp_eq (tgt := 183) hx hb dX9_asks_147 (by decide) (fun c12 => ?_) (fun c12 => ?_)
    · have hf := (if_pos c12).symm.trans hf
      refine lv_aload_n hx hb dX9_asks_183 rfl (lv_at hl 3 rfl) ?_
      refine lv_iload_n hx hb dX9_asks_184 rfl (lv_at hl 4 rfl) ?_
      refine lv_aload_n hx hb dX9_asks_185 rfl (lv_at hl 3 rfl) ?_
      refine va_get (D := zt_D G) (ci := 8) (v := .int (σ 94 33)) (C := RX9) (T := TX9) (N := 37) hx hb hts inX9 hown hK hP 94 (zt_a8 (rfl : zt_kd 94 = 8)) rfl 33 (by decide) fl190 (fun _ h9 => h9) rfl dX9_asks_186 ?_
      obtain ⟨v13, hvv13, hf⟩ := zt_bd_some hf
      refine va_calli (va_runV (As := [.int u1, .int (σ 94 33)]) (rest := []) ⟨hx, hb, hml, hown, hts⟩ (m_X9_isThere l G (σ := σ) hvv13) (cwV 2 hts gX9_asks_X9_isThere rfl rfl rfl zh_X9_isThere ⟨Nat.le_of_ble_eq_true rfl, Nat.le_of_ble_eq_true rfl⟩) ⟨zt_blind, va_recv hK hP (ci := 8) (q0 := 94) rfl (zt_a8 (rfl : zt_kd 94 = 8)), fun U hU hW => ⟨rfl, zt_go hE hP hS zt_id hU hW⟩⟩ rfl rfl hl.1 rfl (lv_room (Nat.le_of_ble_eq_true rfl)) dX9_asks_189 ⟨Nat.zero_le _, Nat.zero_le _⟩) hS (fun _ _ h => h) (fun _ h => h) (fun r u t H locs ht hvm hw hB _ _ hS => ?_)
      rw [hw.1]; have hB : zt_B G u t := hB; rw [hw.2] at hB; have hP := zt_B.P hB ht
      refine lv_istore (lv' := [(11, .int v13), (10, .int (-1)), (9, .int (-1)), (8, .int v10), (0, .ref (zt_ad G 94)), (1, .int u1), (2, .int u2), (4, .int u4), (5, .int u5), (6, .int u6)]) hx hb dX9_asks_192 hl (by decide) rfl (fun ls hl => ?_)
      refine lv_iload hx hb dX9_asks_194 (lv_at hl 0 rfl) ?_
      refine lv_if_eq (tgt := 206) hx hb dX9_asks_196 (by decide) (fun c15 => ?_) (fun c15 => ?_)
      · have hf := (if_pos c15).symm.trans hf
        refine lv_bipush (v := 10) hx hb dX9_asks_206 (by decide +kernel) ?_
        refine lv_aload_n hx hb dX9_asks_208 rfl (lv_at hl 4 rfl) ?_
        refine lv_iload_n hx hb dX9_asks_209 rfl (lv_at hl 5 rfl) ?_
        refine lv_iload_n hx hb dX9_asks_210 rfl (lv_at hl 6 rfl) ?_
        refine lv_aload_n hx hb dX9_asks_211 rfl (lv_at hl 4 rfl) ?_
        refine va_get (D := zt_D G) (ci := 8) (v := .int (σ 94 33)) (C := RX9) (T := TX9) (N := 37) hx hb hts inX9 hown hK hP 94 (zt_a8 (rfl : zt_kd 94 = 8)) rfl 33 (by decide) fl190 (fun _ h9 => h9) rfl dX9_asks_212 ?_
        obtain ⟨v16, hvv16, hf⟩ := zt_bd_some hf
        refine va_calli (va_runV (As := [.int u1, .int u2, .int (σ 94 33)]) (rest := [.int 10]) ⟨hx, hb, hml, hown, hts⟩ (m_X9_encloser l G (σ := σ) hvv16) (cwV 3 hts gX9_asks_X9_encloser rfl rfl rfl zh_X9_encloser ⟨Nat.le_of_ble_eq_true rfl, Nat.le_of_ble_eq_true rfl⟩) ⟨zt_blind, va_recv hK hP (ci := 8) (q0 := 94) rfl (zt_a8 (rfl : zt_kd 94 = 8)), fun U hU hW => ⟨rfl, zt_go hE hP hS zt_id hU hW⟩⟩ rfl rfl hl.1 rfl (lv_room (Nat.le_of_ble_eq_true rfl)) dX9_asks_215 ⟨Nat.zero_le _, Nat.zero_le _⟩) hS (fun _ _ h => h) (fun _ h => h) (fun r u t H locs ht hvm hw hB _ _ hS => ?_)
        rw [hw.1]; have hB : zt_B G u t := hB; rw [hw.2] at hB; have hP := zt_B.P hB ht
        refine lv_imul hx hb dX9_asks_218 ?_
        exact B219 rc18 hrc18 σ (10 * v16) u1 u2 u4 u5 u6 (-1) (-1) v13 _ _ _ hf hP hS (lv_sub hl [4, 5, 6, 7, 8, 9, 2, 1, 0] rfl)
      · have hf := (if_neg c15).symm.trans hf
        refine lv_aload_n hx hb dX9_asks_199 rfl (lv_at hl 4 rfl) ?_
        refine va_get (D := zt_D G) (ci := 8) (v := .int (σ 94 33)) (C := RX9) (T := TX9) (N := 37) hx hb hts inX9 hown hK hP 94 (zt_a8 (rfl : zt_kd 94 = 8)) rfl 33 (by decide) fl190 (fun _ h9 => h9) rfl dX9_asks_200 ?_
        refine lv_goto (tgt := 219) hx hb dX9_asks_203 (by decide) ?_
        exact B219 rc18 hrc18 σ (σ 94 33) u1 u2 u4 u5 u6 (-1) (-1) v13 _ _ _ hf hP hS (lv_sub hl [4, 5, 6, 7, 8, 9, 2, 1, 0] rfl)
    · have hf := (if_neg c12).symm.trans hf
      refine lv_aload_n hx hb dX9_asks_150 rfl (lv_at hl 3 rfl) ?_
      refine va_get (D := zt_D G) (ci := 8) (v := .ref (zt_ad G 106)) (C := RX9) (T := TX9) (N := 37) hx hb hts inX9 hown hK hP 94 (zt_a8 (rfl : zt_kd 94 = 8)) rfl 15 (by decide) fl51 (fun _ h9 => h9) rfl dX9_asks_151 ?_
      refine lv_iload hx hb dX9_asks_154 (lv_at hl 2 rfl) ?_
      obtain ⟨g18, hf⟩ := zt_gd_some hf
      refine va_iald hx hb hK hP 106 0 zt_a_106 rfl (zt_gI_in g18) dX9_asks_156 ?_
      refine lv_aload_n hx hb dX9_asks_157 rfl (lv_at hl 3 rfl) ?_
      refine va_get (D := zt_D G) (ci := 8) (v := .int (σ 94 33)) (C := RX9) (T := TX9) (N := 37) hx hb hts inX9 hown hK hP 94 (zt_a8 (rfl : zt_kd 94 = 8)) rfl 33 (by decide) fl190 (fun _ h9 => h9) rfl dX9_asks_158 ?_
      refine lv_aload_n hx hb dX9_asks_161 rfl (lv_at hl 3 rfl) ?_
      refine va_get (D := zt_D G) (ci := 8) (v := .ref (zt_ad G 104)) (C := RX9) (T := TX9) (N := 37) hx hb hts inX9 hown hK hP 94 (zt_a8 (rfl : zt_kd 94 = 8)) rfl 13 (by decide) fl45 (fun _ h9 => h9) rfl dX9_asks_162 ?_
      refine lv_iload hx hb dX9_asks_165 (lv_at hl 2 rfl) ?_
      obtain ⟨g19, hf⟩ := zt_gd_some hf
      refine va_iald hx hb hK hP 104 0 zt_a_104 rfl (zt_gI_in g19) dX9_asks_167 ?_
      obtain ⟨v20, hvv20, hf⟩ := zt_bd_some hf
      refine va_calli (va_runS (As := [.int (σ 104 v10.toNatClampNeg)]) (rest := [.int (σ 94 33), .int (σ 106 v10.toNatClampNeg)]) ⟨hx, hb, hml, hown, hts⟩ (m_X9_figures l G (σ := σ) hvv20) (va_cwS 1 hts gX9_asks_X9_figures rfl rfl rfl zh_X9_figures ⟨Nat.le_of_ble_eq_true rfl, Nat.le_of_ble_eq_true rfl⟩) ⟨zt_blind, fun U hU hW => ⟨rfl, zt_go hE hP hS zt_id hU hW⟩⟩ rfl rfl hl.1 rfl (lv_room (Nat.le_of_ble_eq_true rfl)) dX9_asks_168 ⟨Nat.zero_le _, Nat.zero_le _⟩) hS (fun _ _ h => h) (fun _ h => h) (fun r u t H locs ht hvm hw hB _ _ hS => ?_)
      rw [hw.1]; have hB : zt_B G u t := hB; rw [hw.2] at hB; have hP := zt_B.P hB ht
      obtain ⟨v22, hvv22, hf⟩ := zt_bd_some hf
      refine va_calli (va_runS (As := [.int (σ 106 v10.toNatClampNeg), .int (σ 94 33), .int v20]) (rest := []) ⟨hx, hb, hml, hown, hts⟩ (m_X9_joined l G (σ := σ) hvv22) (va_cwS 3 hts gX9_asks_X9_joined rfl rfl rfl zh_X9_joined ⟨Nat.le_of_ble_eq_true rfl, Nat.le_of_ble_eq_true rfl⟩) ⟨zt_blind, fun U hU hW => ⟨rfl, zt_go hE hP hS zt_id hU hW⟩⟩ rfl rfl hl.1 rfl (lv_room (Nat.le_of_ble_eq_true rfl)) dX9_asks_171 ⟨Nat.zero_le _, Nat.zero_le _⟩) hS (fun _ _ h => h) (fun _ h => h) (fun r u t H locs ht hvm hw hB _ _ hS => ?_)
      rw [hw.1]; have hB : zt_B G u t := hB; rw [hw.2] at hB; have hP := zt_B.P hB ht
      refine lv_istore (lv' := [(9, .int v22), (10, .int (-1)), (8, .int v10), (0, .ref (zt_ad G 94)), (1, .int u1), (2, .int u2), (4, .int u4), (5, .int u5), (6, .int u6)]) hx hb dX9_asks_174 hl (by decide) rfl (fun ls hl => ?_)
      refine lv_iload hx hb dX9_asks_176 (lv_at hl 2 rfl) ?_
      refine lv_istore (lv' := [(10, .int v10), (9, .int v22), (8, .int v10), (0, .ref (zt_ad G 94)), (1, .int u1), (2, .int u2), (4, .int u4), (5, .int u5), (6, .int u6)]) hx hb dX9_asks_178 hl (by decide) rfl (fun ls hl => ?_)
      refine lv_goto (tgt := 353) hx hb dX9_asks_180 (by decide) ?_
      exact B353 rc18 hrc18 σ u1 u2 u4 u5 u6 v22 v10 _ _ _ hf hP hS (lv_sub hl [3, 4, 5, 6, 7, 8, 1, 0] rfl)
  have B113 : ∀ (σ : zt_St) (y0 : Int32) (u6 : Int32) (H : Heap) (locs : List Loc) (ls : Array Slot), f_X9_asks_113 σ y0 u6 = some (r, σ1) → va_P (zt_D G) vwCl (zt_ww G σ) H → va_S (zt_A G) s.heap H locs → lv_has ls 15 [(6, .int u6)] → W p l e (zt_R 5 113) s m ([.ref (zt_ad G 94), .int x1, .int x2, .int x3, .int x4] : List Value).toArray below meth c H locs 0 0 (MQ below (zt_Ci G r σ1) ([.ref (zt_ad G 94), .int x1, .int x2, .int x3, .int x4] : List Value).toArray s 0 0 (zt_A G)) (F0 m 113 ls [.int y0, .ref (zt_ad G 94)]) := by
    intro σ y0 u6 H locs ls hf hP hS hl
    unfold f_X9_asks_113 at hf
    obtain ⟨σ68, hσ68, hf⟩ := zt_lt_some hf
    refine va_put (D := zt_D G) (ci := 8) (v := .int y0) (ty := .int) (C := RX9) (T := TX9) (N := 37) hx hb hts inX9 tyX9 tyX9_ok nmX9 hown hK hP (zt_apart hE.1) hS 94 (zt_a8 (rfl : zt_kd 94 = 8)) rfl 33 (by decide) fl190 (fun _ h9 => h9) rfl (tyX9_ok 33 (by decide)) rfl rfl (Nat.le_of_ble_eq_true rfl) dX9_asks_113 (fun H locs hP _ hS => ?_)
    rw [zt_p8_33 (rfl : zt_kd 94 = 8), ← hσ68] at hP
    refine lv_iload hx hb dX9_asks_116 (lv_at hl 0 rfl) ?_
    refine lv_if_le (tgt := 125) hx hb dX9_asks_118 (by decide) (fun c69 => ?_) (fun c69 => ?_)
    · have hf := (if_pos c69).symm.trans hf
      refine lv_iconst (v := 3) hx hb dX9_asks_125 (by decide) ?_
      exact W.iret hx hb hr (fun t ht hW => ⟨⟨_, _, rfl, (Prod.mk.inj (Option.some.inj hf)), zt_go hE hP hS zt_id ht hW⟩, hS.F ht⟩) hS.2.2 dX9_asks_126
    · have hf := (if_neg c69).symm.trans hf
      refine lv_iconst (v := 4) hx hb dX9_asks_121 (by decide) ?_
      refine lv_goto (tgt := 126) hx hb dX9_asks_122 (by decide) ?_
      exact W.iret hx hb hr (fun t ht hW => ⟨⟨_, _, rfl, (Prod.mk.inj (Option.some.inj hf)), zt_go hE hP hS zt_id ht hW⟩, hS.F ht⟩) hS.2.2 dX9_asks_126
  have B79 : ∀ (σ : zt_St) (y0 : Int32) (u6 : Int32) (u7 : Int32) (H : Heap) (locs : List Loc) (ls : Array Slot), f_X9_asks_79 σ y0 u6 u7 = some (r, σ1) → va_P (zt_D G) vwCl (zt_ww G σ) H → va_S (zt_A G) s.heap H locs → lv_has ls 15 [(0, .ref (zt_ad G 94)), (6, .int u6), (7, .int u7)] → W p l e (zt_R 5 113) s m ([.ref (zt_ad G 94), .int x1, .int x2, .int x3, .int x4] : List Value).toArray below meth c H locs 0 0 (MQ below (zt_Ci G r σ1) ([.ref (zt_ad G 94), .int x1, .int x2, .int x3, .int x4] : List Value).toArray s 0 0 (zt_A G)) (F0 m 79 ls [.int y0, .ref (zt_ad G 94)]) := by
    intro σ y0 u6 u7 H locs ls hf hP hS hl
    unfold f_X9_asks_79 at hf
    obtain ⟨σ43, hσ43, hf⟩ := zt_lt_some hf
    refine va_put (D := zt_D G) (ci := 8) (v := .int y0) (ty := .int) (C := RX9) (T := TX9) (N := 37) hx hb hts inX9 tyX9 tyX9_ok nmX9 hown hK hP (zt_apart hE.1) hS 94 (zt_a8 (rfl : zt_kd 94 = 8)) rfl 34 (by decide) fl199 (fun _ h9 => h9) rfl (tyX9_ok 34 (by decide)) rfl rfl (Nat.le_of_ble_eq_true rfl) dX9_asks_79 (fun H locs hP _ hS => ?_)
    rw [zt_p8_34 (rfl : zt_kd 94 = 8), ← hσ43] at hP
    refine lv_aload_n hx hb dX9_asks_82 rfl (lv_at hl 0 rfl) ?_
    refine lv_aload_n hx hb dX9_asks_83 rfl (lv_at hl 0 rfl) ?_
    refine va_get (D := zt_D G) (ci := 8) (v := .ref (zt_ad G 106)) (C := RX9) (T := TX9) (N := 37) hx hb hts inX9 hown hK hP 94 (zt_a8 (rfl : zt_kd 94 = 8)) rfl 15 (by decide) fl51 (fun _ h9 => h9) rfl dX9_asks_84 ?_
    refine lv_iload hx hb dX9_asks_87 (lv_at hl 2 rfl) ?_
    obtain ⟨g44, hf⟩ := zt_gd_some hf
    refine va_iald hx hb hK hP 106 0 zt_a_106 rfl (zt_gI_in g44) dX9_asks_89 ?_
    obtain ⟨σ45, hσ45, hf⟩ := zt_lt_some hf
    refine va_put (D := zt_D G) (ci := 8) (v := .int (σ43 106 u7.toNatClampNeg)) (ty := .int) (C := RX9) (T := TX9) (N := 37) hx hb hts inX9 tyX9 tyX9_ok nmX9 hown hK hP (zt_apart hE.1) hS 94 (zt_a8 (rfl : zt_kd 94 = 8)) rfl 32 (by decide) fl193 (fun _ h9 => h9) rfl (tyX9_ok 32 (by decide)) rfl rfl (Nat.le_of_ble_eq_true rfl) dX9_asks_90 (fun H locs hP _ hS => ?_)
    rw [zt_p8_32 (rfl : zt_kd 94 = 8), ← hσ45] at hP
    refine lv_aload_n hx hb dX9_asks_93 rfl (lv_at hl 0 rfl) ?_
    refine lv_iload hx hb dX9_asks_94 (lv_at hl 1 rfl) ?_
    refine lv_if_le (tgt := 106) hx hb dX9_asks_96 (by decide) (fun c46 => ?_) (fun c46 => ?_)
    · have hf := (if_pos c46).symm.trans hf
      refine lv_aload_n hx hb dX9_asks_106 rfl (lv_at hl 0 rfl) ?_
      refine va_get (D := zt_D G) (ci := 8) (v := .ref (zt_ad G 104)) (C := RX9) (T := TX9) (N := 37) hx hb hts inX9 hown hK hP 94 (zt_a8 (rfl : zt_kd 94 = 8)) rfl 13 (by decide) fl45 (fun _ h9 => h9) rfl dX9_asks_107 ?_
      refine lv_iload hx hb dX9_asks_110 (lv_at hl 2 rfl) ?_
      obtain ⟨g47, hf⟩ := zt_gd_some hf
      refine va_iald hx hb hK hP 104 0 zt_a_104 rfl (zt_gI_in g47) dX9_asks_112 ?_
      exact B113 σ45 (σ45 104 u7.toNatClampNeg) u6 _ _ _ hf hP hS (lv_sub hl [1] rfl)
    · have hf := (if_neg c46).symm.trans hf
      refine lv_aload_n hx hb dX9_asks_99 rfl (lv_at hl 0 rfl) ?_
      refine va_get (D := zt_D G) (ci := 8) (v := .int (σ45 94 33)) (C := RX9) (T := TX9) (N := 37) hx hb hts inX9 hown hK hP 94 (zt_a8 (rfl : zt_kd 94 = 8)) rfl 33 (by decide) fl190 (fun _ h9 => h9) rfl dX9_asks_100 ?_
      refine lv_goto (tgt := 113) hx hb dX9_asks_103 (by decide) ?_
      exact B113 σ45 (σ45 94 33) u6 _ _ _ hf hP hS (lv_sub hl [1] rfl)
  have B61 : ∀ (σ : zt_St) (u5 : Int32) (u6 : Int32) (u7 : Int32) (H : Heap) (locs : List Loc) (ls : Array Slot), f_X9_asks_61 σ u5 u6 u7 = some (r, σ1) → va_P (zt_D G) vwCl (zt_ww G σ) H → va_S (zt_A G) s.heap H locs → lv_has ls 15 [(0, .ref (zt_ad G 94)), (5, .int u5), (6, .int u6), (7, .int u7)] → W p l e (zt_R 5 113) s m ([.ref (zt_ad G 94), .int x1, .int x2, .int x3, .int x4] : List Value).toArray below meth c H locs 0 0 (MQ below (zt_Ci G r σ1) ([.ref (zt_ad G 94), .int x1, .int x2, .int x3, .int x4] : List Value).toArray s 0 0 (zt_A G)) (F0 m 61 ls []) := by
    intro σ u5 u6 u7 H locs ls hf hP hS hl
    unfold f_X9_asks_61 at hf
    refine lv_aload_n hx hb dX9_asks_61 rfl (lv_at hl 0 rfl) ?_
    refine lv_iload hx hb dX9_asks_62 (lv_at hl 2 rfl) ?_
    refine lv_if_le (tgt := 72) hx hb dX9_asks_64 (by decide) (fun c24 => ?_) (fun c24 => ?_)
    · have hf := (if_pos c24).symm.trans hf
      refine lv_aload_n hx hb dX9_asks_72 rfl (lv_at hl 0 rfl) ?_
      refine va_get (D := zt_D G) (ci := 8) (v := .ref (zt_ad G 107)) (C := RX9) (T := TX9) (N := 37) hx hb hts inX9 hown hK hP 94 (zt_a8 (rfl : zt_kd 94 = 8)) rfl 16 (by decide) fl54 (fun _ h9 => h9) rfl dX9_asks_73 ?_
      refine lv_iload hx hb dX9_asks_76 (lv_at hl 3 rfl) ?_
      obtain ⟨g25, hf⟩ := zt_gd_some hf
      refine va_iald hx hb hK hP 107 0 zt_a_107 rfl (zt_gI_in g25) dX9_asks_78 ?_
      exact B79 σ (σ 107 u7.toNatClampNeg) u6 u7 _ _ _ hf hP hS (lv_sub hl [0, 2, 3] rfl)
    · have hf := (if_neg c24).symm.trans hf
      refine lv_iload hx hb dX9_asks_67 (lv_at hl 1 rfl) ?_
      refine lv_goto (tgt := 79) hx hb dX9_asks_69 (by decide) ?_
      exact B79 σ u5 u6 u7 _ _ _ hf hP hS (lv_sub hl [0, 2, 3] rfl)
  have B18 : ∀ (n : Nat), ∀ (σ : zt_St) (u1 : Int32) (u2 : Int32) (u4 : Int32) (u5 : Int32) (u6 : Int32) (H : Heap) (locs : List Loc) (ls : Array Slot), f_X9_asks_18 n σ u1 u2 u4 u5 u6 = some (r, σ1) → va_P (zt_D G) vwCl (zt_ww G σ) H → va_S (zt_A G) s.heap H locs → lv_has ls 15 [(0, .ref (zt_ad G 94)), (1, .int u1), (2, .int u2), (4, .int u4), (5, .int u5), (6, .int u6)] → W p l e (zt_R 5 113) s m ([.ref (zt_ad G 94), .int x1, .int x2, .int x3, .int x4] : List Value).toArray below meth c H locs 0 0 (MQ below (zt_Ci G r σ1) ([.ref (zt_ad G 94), .int x1, .int x2, .int x3, .int x4] : List Value).toArray s 0 0 (zt_A G)) (F0 m 18 ls []) := by
    intro n
    induction n with
    | zero => intro σ u1 u2 u4 u5 u6 H locs ls hf; exact nomatch hf
    | succ n hrc18 =>
      intro σ u1 u2 u4 u5 u6 H locs ls hf hP hS hl
      generalize hrcg : f_X9_asks_18 n = rc18 at hrc18
      have hf : f_X9_asks_18b rc18 σ u1 u2 u4 u5 u6 = some (r, σ1) := by rw [← hrcg]; exact hf
      unfold f_X9_asks_18b at hf
      refine lv_aload_n hx hb dX9_asks_18 rfl (lv_at hl 0 rfl) ?_
      refine lv_iload_n hx hb dX9_asks_19 rfl (lv_at hl 1 rfl) ?_
      refine lv_aload_n hx hb dX9_asks_20 rfl (lv_at hl 0 rfl) ?_
      refine va_get (D := zt_D G) (ci := 8) (v := .int (σ 94 33)) (C := RX9) (T := TX9) (N := 37) hx hb hts inX9 hown hK hP 94 (zt_a8 (rfl : zt_kd 94 = 8)) rfl 33 (by decide) fl190 (fun _ h9 => h9) rfl dX9_asks_21 ?_
      obtain ⟨v3, hvv3, hf⟩ := zt_bd_some hf
      refine va_calli (va_runV (As := [.int u1, .int (σ 94 33)]) (rest := []) ⟨hx, hb, hml, hown, hts⟩ (m_X9_cutAbove l G (σ := σ) hvv3) (cwV 2 hts gX9_asks_X9_cutAbove rfl rfl rfl zh_X9_cutAbove ⟨Nat.le_of_ble_eq_true rfl, Nat.le_of_ble_eq_true rfl⟩) ⟨zt_blind, va_recv hK hP (ci := 8) (q0 := 94) rfl (zt_a8 (rfl : zt_kd 94 = 8)), fun U hU hW => ⟨rfl, zt_go hE hP hS zt_id hU hW⟩⟩ rfl rfl hl.1 rfl (lv_room (Nat.le_of_ble_eq_true rfl)) dX9_asks_24 ⟨Nat.zero_le _, Nat.zero_le _⟩) hS (fun _ _ h => h) (fun _ h => h) (fun r u t H locs ht hvm hw hB _ _ hS => ?_)
      rw [hw.1]; have hB : zt_B G u t := hB; rw [hw.2] at hB; have hP := zt_B.P hB ht
      refine lv_istore (lv' := [(7, .int v3), (0, .ref (zt_ad G 94)), (1, .int u1), (2, .int u2), (4, .int u4), (5, .int u5), (6, .int u6)]) hx hb dX9_asks_27 hl (by decide) rfl (fun ls hl => ?_)
      refine lv_iload hx hb dX9_asks_29 (lv_at hl 0 rfl) ?_
      refine lv_iconst (v := (-1)) hx hb dX9_asks_31 (by decide) ?_
      refine lv_icmp_eq (tgt := 127) hx hb dX9_asks_32 (by decide) (fun c5 => ?_) (fun c5 => ?_)
      · have hf := (if_pos c5).symm.trans hf
        exact B127 rc18 hrc18 σ u1 u2 u4 u5 u6 _ _ _ hf hP hS (lv_sub hl [1, 2, 3, 4, 5, 6] rfl)
      · have hf := (if_neg c5).symm.trans hf
        refine lv_aload_n hx hb dX9_asks_35 rfl (lv_at hl 1 rfl) ?_
        refine va_get (D := zt_D G) (ci := 8) (v := .ref (zt_ad G 104)) (C := RX9) (T := TX9) (N := 37) hx hb hts inX9 hown hK hP 94 (zt_a8 (rfl : zt_kd 94 = 8)) rfl 13 (by decide) fl45 (fun _ h9 => h9) rfl dX9_asks_36 ?_
        refine lv_iload hx hb dX9_asks_39 (lv_at hl 0 rfl) ?_
        obtain ⟨g6, hf⟩ := zt_gd_some hf
        refine va_iald hx hb hK hP 104 0 zt_a_104 rfl (zt_gI_in g6) dX9_asks_41 ?_
        refine lv_aload_n hx hb dX9_asks_42 rfl (lv_at hl 1 rfl) ?_
        refine va_get (D := zt_D G) (ci := 8) (v := .int (σ 94 33)) (C := RX9) (T := TX9) (N := 37) hx hb hts inX9 hown hK hP 94 (zt_a8 (rfl : zt_kd 94 = 8)) rfl 33 (by decide) fl190 (fun _ h9 => h9) rfl dX9_asks_43 ?_
        refine lv_icmp_ne (tgt := 61) hx hb dX9_asks_46 (by decide) (fun c7 => ?_) (fun c7 => ?_)
        · have hf := (if_neg c7).symm.trans hf
          exact B61 σ u5 u6 v3 _ _ _ hf hP hS (lv_sub hl [1, 5, 6, 0] rfl)
        · have hf := (if_pos c7).symm.trans hf
          refine lv_iload hx hb dX9_asks_49 (lv_at hl 4 rfl) ?_
          refine lv_iconst (v := 3) hx hb dX9_asks_51 (by decide) ?_
          refine lv_icmp_eq (tgt := 127) hx hb dX9_asks_52 (by decide) (fun c8 => ?_) (fun c8 => ?_)
          · have hf := (if_pos c8).symm.trans hf
            exact B127 rc18 hrc18 σ u1 u2 u4 u5 u6 _ _ _ hf hP hS (lv_sub hl [1, 2, 3, 4, 5, 6] rfl)
          · have hf := (if_neg c8).symm.trans hf
            refine lv_iload hx hb dX9_asks_55 (lv_at hl 4 rfl) ?_
            refine lv_iconst (v := 4) hx hb dX9_asks_57 (by decide) ?_
            refine lv_icmp_eq (tgt := 127) hx hb dX9_asks_58 (by decide) (fun c9 => ?_) (fun c9 => ?_)
            · have hf := (if_pos c9).symm.trans hf
              exact B127 rc18 hrc18 σ u1 u2 u4 u5 u6 _ _ _ hf hP hS (lv_sub hl [1, 2, 3, 4, 5, 6] rfl)
            · have hf := (if_neg c9).symm.trans hf
              exact B61 σ u5 u6 v3 _ _ _ hf hP hS (lv_sub hl [1, 5, 6, 0] rfl)
  unfold f_X9_asks at hf
  refine lv_aload_n hx hb dX9_asks_0 rfl (lv_at hl 0 rfl) ?_
  refine lv_iload_n hx hb dX9_asks_1 rfl (lv_at hl 3 rfl) ?_
  obtain ⟨σ1, hσ1, hf⟩ := zt_lt_some hf
  refine va_put (D := zt_D G) (ci := 8) (v := .int x3) (ty := .int) (C := RX9) (T := TX9) (N := 37) hx hb hts inX9 tyX9 tyX9_ok nmX9 hown hK hP (zt_apart hE.1) hS 94 (zt_a8 (rfl : zt_kd 94 = 8)) rfl 33 (by decide) fl190 (fun _ h9 => h9) rfl (tyX9_ok 33 (by decide)) rfl rfl (Nat.le_of_ble_eq_true rfl) dX9_asks_2 (fun H locs hP _ hS => ?_)
  rw [zt_p8_33 (rfl : zt_kd 94 = 8), ← hσ1] at hP
  refine lv_aload_n hx hb dX9_asks_5 rfl (lv_at hl 0 rfl) ?_
  refine lv_iconst (v := (-1)) hx hb dX9_asks_6 (by decide) ?_
  obtain ⟨σ2, hσ2, hf⟩ := zt_lt_some hf
  refine va_put (D := zt_D G) (ci := 8) (v := .int (-1)) (ty := .int) (C := RX9) (T := TX9) (N := 37) hx hb hts inX9 tyX9 tyX9_ok nmX9 hown hK hP (zt_apart hE.1) hS 94 (zt_a8 (rfl : zt_kd 94 = 8)) rfl 32 (by decide) fl193 (fun _ h9 => h9) rfl (tyX9_ok 32 (by decide)) rfl rfl (Nat.le_of_ble_eq_true rfl) dX9_asks_7 (fun H locs hP _ hS => ?_)
  rw [zt_p8_32 (rfl : zt_kd 94 = 8), ← hσ2] at hP
  refine lv_sipush (v := 1000) hx hb dX9_asks_10 (by decide +kernel) ?_
  refine lv_istore (lv' := [(5, .int 1000), (0, .ref (zt_ad G 94)), (1, .int x1), (2, .int x2), (3, .int x3), (4, .int x4)]) hx hb dX9_asks_13 hl (by decide) rfl (fun ls hl => ?_)
  refine lv_iconst (v := 0) hx hb dX9_asks_15 (by decide) ?_
  refine lv_istore (lv' := [(6, .int 0), (5, .int 1000), (0, .ref (zt_ad G 94)), (1, .int x1), (2, .int x2), (3, .int x3), (4, .int x4)]) hx hb dX9_asks_16 hl (by decide) rfl (fun ls hl => ?_)
  exact B18 zt_FU σ2 x1 x2 x4 1000 0 _ _ _ hf hP hS (lv_sub hl [2, 3, 4, 6, 1, 0] rfl)

theorem zh_X9_tell : yX9_tell.cls = RX9 ∧ yX9_tell.cls ≠ "java/lang/invoke/MethodHandle" ∧ yX9_tell.cls ≠ "java/lang/invoke/VarHandle" ∧ (parseMethodDescriptor yX9_tell.desc).map (fun d => d.parameters.length) = some 5 := by decide +kernel
set_option maxHeartbeats 4000000 in
set_option maxRecDepth 100000 in
theorem m_X9_tell (l : Launch) (G : zt_G) {σ : zt_St} {x1 : Int32} {x2 : Int32} {x3 : Int32} {x4 : Int32} {x5 : Int32} {σ1 : zt_St} (hf : f_X9_tell σ x1 x2 x3 x4 x5 = some σ1) : zt_Mv l G yX9_tell wsX9_tell 0 0 [.ref (zt_ad G 94), .int x1, .int x2, .int x3, .int x4, .int x5] σ σ1 := by
  refine Met.ofW (cc := cX9_tell) (maxL := 6) (ret := none) (by decide) rfl ?_
  intro p e s m args below meth c s₁ B hml hv
  obtain ⟨rfl, hBB⟩ := hv
  have hE := zt_B.env hBB; have hK := hE.2.1; have hP := hBB.2.1
  have hx := B.exec; have hb := B.bytes; have hr := B.returns; have hts := atoms_spec (ws := wsX9_tell) B.pre
  have hown : s.vm.findClass RX9 = some m.cls := findClass_of_methodNamed B.named
  have hlocks := B.notSynchronized
  have hS : va_S (zt_A G) s.heap s.heap [] := va_S.rf
  have hl := lv_entry ([.ref (zt_ad G 94), .int x1, .int x2, .int x3, .int x4, .int x5]) (n := 6) (Nat.le_of_ble_eq_true rfl)
  rw [lg_entry_eq]
  generalize (lg_sl ([.ref (zt_ad G 94), .int x1, .int x2, .int x3, .int x4, .int x5]) ++ List.replicate (6 - (lg_sl ([.ref (zt_ad G 94), .int x1, .int x2, .int x3, .int x4, .int x5])).length) Slot.unset).toArray = ls at hl ⊢
  have hl : lv_has ls 6 [(0, .ref (zt_ad G 94)), (1, .int x1), (2, .int x2), (3, .int x3), (4, .int x4), (5, .int x5)] := hl
  show W p l e (zt_R 0 0) s m ([.ref (zt_ad G 94), .int x1, .int x2, .int x3, .int x4, .int x5] : List Value).toArray below meth c s.heap [] 0 0 (MQ below (zt_Cv G σ1) ([.ref (zt_ad G 94), .int x1, .int x2, .int x3, .int x4, .int x5] : List Value).toArray s 0 0 (zt_A G)) (F0 m 0 ls [])
  have fl96 := hts (.fieldLink RX9 96 "ZoneTreeModel" "told" "[I") (List.mem_cons_of_mem _ (List.mem_append_left _ (List.mem_of_getElem? (i := 0) rfl)))
  have inX9 : ∀ w ∈ wsX90, w ∈ wsX9_tell := fun w h => (List.mem_cons_of_mem _ (List.mem_append_right _ h))
  unfold f_X9_tell at hf
  refine lv_aload_n hx hb dX9_tell_0 rfl (lv_at hl 0 rfl) ?_
  refine va_get (D := zt_D G) (ci := 8) (v := .ref (zt_ad G 121)) (C := RX9) (T := TX9) (N := 37) hx hb hts inX9 hown hK hP 94 (zt_a8 (rfl : zt_kd 94 = 8)) rfl 35 (by decide) fl96 (fun _ h9 => h9) rfl dX9_tell_1 ?_
  refine lv_iconst (v := 0) hx hb dX9_tell_4 (by decide) ?_
  refine lv_iload_n hx hb dX9_tell_5 rfl (lv_at hl 1 rfl) ?_
  obtain ⟨σ2, hσ2, hf⟩ := zt_lt_some hf
  refine va_iast hx hb hK hP (zt_apart hE.1) hS 121 0 zt_a_121 rfl (zt_gI_in (show zt_gI 0 5 = true by decide +kernel)) dX9_tell_6 (fun H locs hP _ hS => ?_)
  rw [zt_p_121, ← hσ2] at hP
  refine lv_aload_n hx hb dX9_tell_7 rfl (lv_at hl 0 rfl) ?_
  refine va_get (D := zt_D G) (ci := 8) (v := .ref (zt_ad G 121)) (C := RX9) (T := TX9) (N := 37) hx hb hts inX9 hown hK hP 94 (zt_a8 (rfl : zt_kd 94 = 8)) rfl 35 (by decide) fl96 (fun _ h9 => h9) rfl dX9_tell_8 ?_
  refine lv_iconst (v := 1) hx hb dX9_tell_11 (by decide) ?_
  refine lv_iload_n hx hb dX9_tell_12 rfl (lv_at hl 2 rfl) ?_
  obtain ⟨σ4, hσ4, hf⟩ := zt_lt_some hf
  refine va_iast hx hb hK hP (zt_apart hE.1) hS 121 0 zt_a_121 rfl (zt_gI_in (show zt_gI 1 5 = true by decide +kernel)) dX9_tell_13 (fun H locs hP _ hS => ?_)
  rw [zt_p_121, ← hσ4] at hP
  refine lv_aload_n hx hb dX9_tell_14 rfl (lv_at hl 0 rfl) ?_
  refine va_get (D := zt_D G) (ci := 8) (v := .ref (zt_ad G 121)) (C := RX9) (T := TX9) (N := 37) hx hb hts inX9 hown hK hP 94 (zt_a8 (rfl : zt_kd 94 = 8)) rfl 35 (by decide) fl96 (fun _ h9 => h9) rfl dX9_tell_15 ?_
  refine lv_iconst (v := 2) hx hb dX9_tell_18 (by decide) ?_
  refine lv_iload_n hx hb dX9_tell_19 rfl (lv_at hl 3 rfl) ?_
  obtain ⟨σ6, hσ6, hf⟩ := zt_lt_some hf
  refine va_iast hx hb hK hP (zt_apart hE.1) hS 121 0 zt_a_121 rfl (zt_gI_in (show zt_gI 2 5 = true by decide +kernel)) dX9_tell_20 (fun H locs hP _ hS => ?_)
  rw [zt_p_121, ← hσ6] at hP
  refine lv_aload_n hx hb dX9_tell_21 rfl (lv_at hl 0 rfl) ?_
  refine va_get (D := zt_D G) (ci := 8) (v := .ref (zt_ad G 121)) (C := RX9) (T := TX9) (N := 37) hx hb hts inX9 hown hK hP 94 (zt_a8 (rfl : zt_kd 94 = 8)) rfl 35 (by decide) fl96 (fun _ h9 => h9) rfl dX9_tell_22 ?_
  refine lv_iconst (v := 3) hx hb dX9_tell_25 (by decide) ?_
  refine lv_iload hx hb dX9_tell_26 (lv_at hl 4 rfl) ?_
  obtain ⟨σ8, hσ8, hf⟩ := zt_lt_some hf
  refine va_iast hx hb hK hP (zt_apart hE.1) hS 121 0 zt_a_121 rfl (zt_gI_in (show zt_gI 3 5 = true by decide +kernel)) dX9_tell_28 (fun H locs hP _ hS => ?_)
  rw [zt_p_121, ← hσ8] at hP
  refine lv_aload_n hx hb dX9_tell_29 rfl (lv_at hl 0 rfl) ?_
  refine va_get (D := zt_D G) (ci := 8) (v := .ref (zt_ad G 121)) (C := RX9) (T := TX9) (N := 37) hx hb hts inX9 hown hK hP 94 (zt_a8 (rfl : zt_kd 94 = 8)) rfl 35 (by decide) fl96 (fun _ h9 => h9) rfl dX9_tell_30 ?_
  refine lv_iconst (v := 4) hx hb dX9_tell_33 (by decide) ?_
  refine lv_iload hx hb dX9_tell_34 (lv_at hl 5 rfl) ?_
  obtain ⟨σ10, hσ10, hf⟩ := zt_lt_some hf
  refine va_iast hx hb hK hP (zt_apart hE.1) hS 121 0 zt_a_121 rfl (zt_gI_in (show zt_gI 4 5 = true by decide +kernel)) dX9_tell_36 (fun H locs hP _ hS => ?_)
  rw [zt_p_121, ← hσ10] at hP
  exact W.vret hx hb hr (fun t ht hW => ⟨⟨_, rfl, (Option.some.inj hf), zt_go hE hP hS zt_id ht hW⟩, hS.F ht⟩) hS.2.2 dX9_tell_37

theorem zh_X9_ask : yX9_ask.cls = RX9 ∧ yX9_ask.cls ≠ "java/lang/invoke/MethodHandle" ∧ yX9_ask.cls ≠ "java/lang/invoke/VarHandle" ∧ (parseMethodDescriptor yX9_ask.desc).map (fun d => d.parameters.length) = some 3 := by decide +kernel
set_option maxHeartbeats 4000000 in
set_option maxRecDepth 100000 in
theorem m_X9_ask (l : Launch) (G : zt_G) {σ : zt_St} {x1 : Int32} {x2 : Int32} {x3 : Int32} {r : Int32} {σ1 : zt_St} (hf : f_X9_ask σ x1 x2 x3 = some (r, σ1)) : zt_Mi l G yX9_ask wsX9_ask 6 147 [.ref (zt_ad G 94), .int x1, .int x2, .int x3] σ r σ1 := by
  refine Met.ofW (cc := cX9_ask) (maxL := 6) (ret := (some .int)) (by decide) rfl ?_
  intro p e s m args below meth c s₁ B hml hv
  obtain ⟨rfl, hBB⟩ := hv
  have hE := zt_B.env hBB; have hK := hE.2.1; have hP := hBB.2.1
  have hx := B.exec; have hb := B.bytes; have hr := B.returns; have hts := atoms_spec (ws := wsX9_ask) B.pre
  have hown : s.vm.findClass RX9 = some m.cls := findClass_of_methodNamed B.named
  have hlocks := B.notSynchronized
  have hS : va_S (zt_A G) s.heap s.heap [] := va_S.rf
  have hl := lv_entry ([.ref (zt_ad G 94), .int x1, .int x2, .int x3]) (n := 6) (Nat.le_of_ble_eq_true rfl)
  rw [lg_entry_eq]
  generalize (lg_sl ([.ref (zt_ad G 94), .int x1, .int x2, .int x3]) ++ List.replicate (6 - (lg_sl ([.ref (zt_ad G 94), .int x1, .int x2, .int x3])).length) Slot.unset).toArray = ls at hl ⊢
  have hl : lv_has ls 6 [(0, .ref (zt_ad G 94)), (1, .int x1), (2, .int x2), (3, .int x3)] := hl
  show W p l e (zt_R 6 147) s m ([.ref (zt_ad G 94), .int x1, .int x2, .int x3] : List Value).toArray below meth c s.heap [] 0 0 (MQ below (zt_Ci G r σ1) ([.ref (zt_ad G 94), .int x1, .int x2, .int x3] : List Value).toArray s 0 0 (zt_A G)) (F0 m 0 ls [])
  have fl13 := hts (.fieldLink RX9 13 "ZoneTreeModel" "apex" "[I") (List.mem_cons_of_mem _ (List.mem_append_left _ (List.mem_append_left _ (List.mem_of_getElem? (i := 0) rfl))))
  have fl190 := hts (.fieldLink RX9 190 "ZoneTreeModel" "ends" "I") (List.mem_cons_of_mem _ (List.mem_append_left _ (List.mem_append_left _ (List.mem_of_getElem? (i := 2) rfl))))
  have fl193 := hts (.fieldLink RX9 193 "ZoneTreeModel" "its" "I") (List.mem_cons_of_mem _ (List.mem_append_left _ (List.mem_append_left _ (List.mem_of_getElem? (i := 1) rfl))))
  have fl199 := hts (.fieldLink RX9 199 "ZoneTreeModel" "lasts" "I") (List.mem_cons_of_mem _ (List.mem_append_left _ (List.mem_append_left _ (List.mem_of_getElem? (i := 3) rfl))))
  have inX9 : ∀ w ∈ wsX90, w ∈ wsX9_ask := fun w h => (List.mem_cons_of_mem _ (List.mem_append_right _ h))
  have B94 : ∀ (σ : zt_St) (y0 : Int32) (u5 : Int32) (H : Heap) (locs : List Loc) (ls : Array Slot), f_X9_ask_94 σ y0 u5 = some (r, σ1) → va_P (zt_D G) vwCl (zt_ww G σ) H → va_S (zt_A G) s.heap H locs → lv_has ls 6 [(0, .ref (zt_ad G 94)), (5, .int u5)] → W p l e (zt_R 6 147) s m ([.ref (zt_ad G 94), .int x1, .int x2, .int x3] : List Value).toArray below meth c H locs 0 0 (MQ below (zt_Ci G r σ1) ([.ref (zt_ad G 94), .int x1, .int x2, .int x3] : List Value).toArray s 0 0 (zt_A G)) (F0 m 94 ls [.int y0, .ref (zt_ad G 94)]) := by
    intro σ y0 u5 H locs ls hf hP hS hl
    unfold f_X9_ask_94 at hf
    refine lv_aload_n hx hb dX9_ask_94 rfl (lv_at hl 0 rfl) ?_
    refine va_get (D := zt_D G) (ci := 8) (v := .int (σ 94 33)) (C := RX9) (T := TX9) (N := 37) hx hb hts inX9 hown hK hP 94 (zt_a8 (rfl : zt_kd 94 = 8)) rfl 33 (by decide) fl190 (fun _ h9 => h9) rfl dX9_ask_95 ?_
    refine lv_aload_n hx hb dX9_ask_98 rfl (lv_at hl 0 rfl) ?_
    refine va_get (D := zt_D G) (ci := 8) (v := .int (σ 94 34)) (C := RX9) (T := TX9) (N := 37) hx hb hts inX9 hown hK hP 94 (zt_a8 (rfl : zt_kd 94 = 8)) rfl 34 (by decide) fl199 (fun _ h9 => h9) rfl dX9_ask_99 ?_
    refine lv_iconst (v := 1) hx hb dX9_ask_102 (by decide) ?_
    refine lv_iconst (v := 0) hx hb dX9_ask_103 (by decide) ?_
    obtain ⟨σ26, hvv25, hf⟩ := zt_bd_some hf
    refine va_callv (va_runV (As := [.int y0, .int (σ 94 33), .int (σ 94 34), .int 1, .int 0]) (rest := []) ⟨hx, hb, hml, hown, hts⟩ (m_X9_tell l G (σ := σ) hvv25) (cwV 5 hts gX9_ask_X9_tell rfl rfl rfl zh_X9_tell ⟨Nat.le_of_ble_eq_true rfl, Nat.le_of_ble_eq_true rfl⟩) ⟨zt_blind, va_recv hK hP (ci := 8) (q0 := 94) rfl (zt_a8 (rfl : zt_kd 94 = 8)), fun U hU hW => ⟨rfl, zt_go hE hP hS zt_id hU hW⟩⟩ rfl rfl hl.1 rfl (lv_room (Nat.le_of_ble_eq_true rfl)) dX9_ask_104 ⟨Nat.zero_le _, Nat.zero_le _⟩) hS (fun _ _ h => h) (fun _ h => h) (fun u t H locs ht hvm hw hB _ _ hS => ?_)
    have hB : zt_B G u t := hB; rw [hw] at hB; have hP := zt_B.P hB ht
    refine lv_iload hx hb dX9_ask_107 (lv_at hl 1 rfl) ?_
    exact W.iret hx hb hr (fun t ht hW => ⟨⟨_, _, rfl, (Prod.mk.inj (Option.some.inj hf)), zt_go hE hP hS zt_id ht hW⟩, hS.F ht⟩) hS.2.2 dX9_ask_109
  have B62 : ∀ (σ : zt_St) (y0 : Int32) (y1 : Int32) (y2 : Int32) (u1 : Int32) (u2 : Int32) (u3 : Int32) (H : Heap) (locs : List Loc) (ls : Array Slot), f_X9_ask_62 σ y0 y1 y2 u1 u2 u3 = some (r, σ1) → va_P (zt_D G) vwCl (zt_ww G σ) H → va_S (zt_A G) s.heap H locs → lv_has ls 6 [(0, .ref (zt_ad G 94)), (1, .int u1), (2, .int u2), (3, .int u3)] → W p l e (zt_R 6 147) s m ([.ref (zt_ad G 94), .int x1, .int x2, .int x3] : List Value).toArray below meth c H locs 0 0 (MQ below (zt_Ci G r σ1) ([.ref (zt_ad G 94), .int x1, .int x2, .int x3] : List Value).toArray s 0 0 (zt_A G)) (F0 m 62 ls [.int y0, .int y1, .int y2, .ref (zt_ad G 94)]) := by
    intro σ y0 y1 y2 u1 u2 u3 H locs ls hf hP hS hl
    unfold f_X9_ask_62 at hf
    obtain ⟨⟨v17a, σ18a⟩, hvv17, hf⟩ := zt_bd_some hf
    obtain ⟨v17, hv17, hf⟩ := zt_lt_some hf; obtain ⟨σ18, hσ18, hf⟩ := zt_lt_some hf; rw [show (v17a, σ18a) = (v17, σ18) from by rw [hv17, hσ18]] at hvv17
    refine va_calli (va_runV (As := [.int y2, .int y1, .int y0]) (rest := []) ⟨hx, hb, hml, hown, hts⟩ (m_X9_asked__ l G (σ := σ) hvv17) (cwV 3 hts gX9_ask_X9_asked__ rfl rfl rfl zh_X9_asked__ ⟨Nat.le_of_ble_eq_true rfl, Nat.le_of_ble_eq_true rfl⟩) ⟨zt_blind, va_recv hK hP (ci := 8) (q0 := 94) rfl (zt_a8 (rfl : zt_kd 94 = 8)), fun U hU hW => ⟨rfl, zt_go hE hP hS zt_id hU hW⟩⟩ rfl rfl hl.1 rfl (lv_room (Nat.le_of_ble_eq_true rfl)) dX9_ask_62 ⟨Nat.zero_le _, Nat.zero_le _⟩) hS (fun _ _ h => h) (fun _ h => h) (fun r u t H locs ht hvm hw hB _ _ hS => ?_)
    rw [hw.1]; have hB : zt_B G u t := hB; rw [hw.2] at hB; have hP := zt_B.P hB ht
    refine lv_if_ne (tgt := 70) hx hb dX9_ask_65 (by decide) (fun c20 => ?_) (fun c20 => ?_)
    · have hf := (if_neg c20).symm.trans hf
      refine lv_aload_n hx hb dX9_ask_70 rfl (lv_at hl 0 rfl) ?_
      refine lv_iload_n hx hb dX9_ask_71 rfl (lv_at hl 1 rfl) ?_
      refine lv_iload_n hx hb dX9_ask_72 rfl (lv_at hl 1 rfl) ?_
      refine lv_iload_n hx hb dX9_ask_73 rfl (lv_at hl 2 rfl) ?_
      refine lv_iload_n hx hb dX9_ask_74 rfl (lv_at hl 3 rfl) ?_
      obtain ⟨⟨v21a, σ22a⟩, hvv21, hf⟩ := zt_bd_some hf
      obtain ⟨v21, hv21, hf⟩ := zt_lt_some hf; obtain ⟨σ22, hσ22, hf⟩ := zt_lt_some hf; rw [show (v21a, σ22a) = (v21, σ22) from by rw [hv21, hσ22]] at hvv21
      refine va_calli (va_runV (As := [.int u1, .int u1, .int u2, .int u3]) (rest := []) ⟨hx, hb, hml, hown, hts⟩ (m_X9_asks l G (σ := σ18) hvv21) (cwV 4 hts gX9_ask_X9_asks rfl rfl rfl zh_X9_asks ⟨Nat.le_of_ble_eq_true rfl, Nat.le_of_ble_eq_true rfl⟩) ⟨zt_blind, va_recv hK hP (ci := 8) (q0 := 94) rfl (zt_a8 (rfl : zt_kd 94 = 8)), fun U hU hW => ⟨rfl, zt_go hE hP hS zt_id hU hW⟩⟩ rfl rfl hl.1 rfl (lv_room (Nat.le_of_ble_eq_true rfl)) dX9_ask_75 ⟨Nat.zero_le _, Nat.zero_le _⟩) hS (fun _ _ h => h) (fun _ h => h) (fun r u t H locs ht hvm hw hB _ _ hS => ?_)
      rw [hw.1]; have hB : zt_B G u t := hB; rw [hw.2] at hB; have hP := zt_B.P hB ht
      refine lv_istore (lv' := [(5, .int v21), (0, .ref (zt_ad G 94)), (1, .int u1), (2, .int u2), (3, .int u3)]) hx hb dX9_ask_78 hl (by decide) rfl (fun ls hl => ?_)
      refine lv_aload_n hx hb dX9_ask_80 rfl (lv_at hl 1 rfl) ?_
      refine lv_iload hx hb dX9_ask_81 (lv_at hl 0 rfl) ?_
      refine lv_if_ne (tgt := 93) hx hb dX9_ask_83 (by decide) (fun c24 => ?_) (fun c24 => ?_)
      · have hf := (if_neg c24).symm.trans hf
        refine lv_iconst (v := (-1)) hx hb dX9_ask_93 (by decide) ?_
        exact B94 σ22 (-1) v21 _ _ _ hf hP hS (lv_sub hl [1, 0] rfl)
      · have hf := (if_pos c24).symm.trans hf
        refine lv_aload_n hx hb dX9_ask_86 rfl (lv_at hl 1 rfl) ?_
        refine va_get (D := zt_D G) (ci := 8) (v := .int (σ22 94 32)) (C := RX9) (T := TX9) (N := 37) hx hb hts inX9 hown hK hP 94 (zt_a8 (rfl : zt_kd 94 = 8)) rfl 32 (by decide) fl193 (fun _ h9 => h9) rfl dX9_ask_87 ?_
        refine lv_goto (tgt := 94) hx hb dX9_ask_90 (by decide) ?_
        exact B94 σ22 (σ22 94 32) v21 _ _ _ hf hP hS (lv_sub hl [1, 0] rfl)
    · have hf := (if_pos c20).symm.trans hf
      refine lv_iconst (v := 0) hx hb dX9_ask_68 (by decide) ?_
      exact W.iret hx hb hr (fun t ht hW => ⟨⟨_, _, rfl, (Prod.mk.inj (Option.some.inj hf)), zt_go hE hP hS zt_id ht hW⟩, hS.F ht⟩) hS.2.2 dX9_ask_69
  have B61 : ∀ (σ : zt_St) (y0 : Int32) (y1 : Int32) (u1 : Int32) (u2 : Int32) (u3 : Int32) (H : Heap) (locs : List Loc) (ls : Array Slot), f_X9_ask_61 σ y0 y1 u1 u2 u3 = some (r, σ1) → va_P (zt_D G) vwCl (zt_ww G σ) H → va_S (zt_A G) s.heap H locs → lv_has ls 6 [(0, .ref (zt_ad G 94)), (1, .int u1), (2, .int u2), (3, .int u3)] → W p l e (zt_R 6 147) s m ([.ref (zt_ad G 94), .int x1, .int x2, .int x3] : List Value).toArray below meth c H locs 0 0 (MQ below (zt_Ci G r σ1) ([.ref (zt_ad G 94), .int x1, .int x2, .int x3] : List Value).toArray s 0 0 (zt_A G)) (F0 m 61 ls [.int y0, .int y1, .ref (zt_ad G 94)]) := by
    intro σ y0 y1 u1 u2 u3 H locs ls hf hP hS hl
    unfold f_X9_ask_61 at hf
    refine lv_iconst (v := 0) hx hb dX9_ask_61 (by decide) ?_
    exact B62 σ 0 y0 y1 u1 u2 u3 _ _ _ hf hP hS (lv_sub hl [0, 1, 2, 3] rfl)
  have B21 : ∀ (σ : zt_St) (y0 : Int32) (u1 : Int32) (u2 : Int32) (u3 : Int32) (H : Heap) (locs : List Loc) (ls : Array Slot), f_X9_ask_21 σ y0 u1 u2 u3 = some (r, σ1) → va_P (zt_D G) vwCl (zt_ww G σ) H → va_S (zt_A G) s.heap H locs → lv_has ls 6 [(0, .ref (zt_ad G 94)), (1, .int u1), (2, .int u2), (3, .int u3)] → W p l e (zt_R 6 147) s m ([.ref (zt_ad G 94), .int x1, .int x2, .int x3] : List Value).toArray below meth c H locs 0 0 (MQ below (zt_Ci G r σ1) ([.ref (zt_ad G 94), .int x1, .int x2, .int x3] : List Value).toArray s 0 0 (zt_A G)) (F0 m 21 ls [.int y0]) := by
    intro σ y0 u1 u2 u3 H locs ls hf hP hS hl
    unfold f_X9_ask_21 at hf
    refine lv_istore (lv' := [(4, .int y0), (0, .ref (zt_ad G 94)), (1, .int u1), (2, .int u2), (3, .int u3)]) hx hb dX9_ask_21 hl (by decide) rfl (fun ls hl => ?_)
    refine lv_aload_n hx hb dX9_ask_23 rfl (lv_at hl 1 rfl) ?_
    refine lv_aload_n hx hb dX9_ask_24 rfl (lv_at hl 1 rfl) ?_
    refine lv_iload_n hx hb dX9_ask_25 rfl (lv_at hl 2 rfl) ?_
    obtain ⟨v7, hvv7, hf⟩ := zt_bd_some hf
    refine va_calli (va_runV (As := [.int u1]) (rest := [.ref (zt_ad G 94)]) ⟨hx, hb, hml, hown, hts⟩ (m_X9_isZone l G (σ := σ) hvv7) (cwV 1 hts gX9_ask_X9_isZone rfl rfl rfl zh_X9_isZone ⟨Nat.le_of_ble_eq_true rfl, Nat.le_of_ble_eq_true rfl⟩) ⟨zt_blind, va_recv hK hP (ci := 8) (q0 := 94) rfl (zt_a8 (rfl : zt_kd 94 = 8)), fun U hU hW => ⟨rfl, zt_go hE hP hS zt_id hU hW⟩⟩ rfl rfl hl.1 rfl (lv_room (Nat.le_of_ble_eq_true rfl)) dX9_ask_26 ⟨Nat.zero_le _, Nat.zero_le _⟩) hS (fun _ _ h => h) (fun _ h => h) (fun r u t H locs ht hvm hw hB _ _ hS => ?_)
    rw [hw.1]; have hB : zt_B G u t := hB; rw [hw.2] at hB; have hP := zt_B.P hB ht
    refine lv_iload hx hb dX9_ask_29 (lv_at hl 0 rfl) ?_
    refine lv_aload_n hx hb dX9_ask_31 rfl (lv_at hl 1 rfl) ?_
    refine lv_iload_n hx hb dX9_ask_32 rfl (lv_at hl 2 rfl) ?_
    obtain ⟨v9, hvv9, hf⟩ := zt_bd_some hf
    refine va_calli (va_runV (As := [.int u1]) (rest := [.int y0, .int v7, .ref (zt_ad G 94)]) ⟨hx, hb, hml, hown, hts⟩ (m_X9_isZone l G (σ := σ) hvv9) (cwV 1 hts gX9_ask_X9_isZone rfl rfl rfl zh_X9_isZone ⟨Nat.le_of_ble_eq_true rfl, Nat.le_of_ble_eq_true rfl⟩) ⟨zt_blind, va_recv hK hP (ci := 8) (q0 := 94) rfl (zt_a8 (rfl : zt_kd 94 = 8)), fun U hU hW => ⟨rfl, zt_go hE hP hS zt_id hU hW⟩⟩ rfl rfl hl.1 rfl (lv_room (Nat.le_of_ble_eq_true rfl)) dX9_ask_33 ⟨Nat.zero_le _, Nat.zero_le _⟩) hS (fun _ _ h => h) (fun _ h => h) (fun r u t H locs ht hvm hw hB _ _ hS => ?_)
    rw [hw.1]; have hB : zt_B G u t := hB; rw [hw.2] at hB; have hP := zt_B.P hB ht
    refine lv_if_eq (tgt := 61) hx hb dX9_ask_36 (by decide) (fun c11 => ?_) (fun c11 => ?_)
    · have hf := (if_pos c11).symm.trans hf
      exact B61 σ y0 v7 u1 u2 u3 _ _ _ hf hP hS (lv_sub hl [1, 2, 3, 4] rfl)
    · have hf := (if_neg c11).symm.trans hf
      refine lv_iload hx hb dX9_ask_39 (lv_at hl 0 rfl) ?_
      refine lv_if_eq (tgt := 61) hx hb dX9_ask_41 (by decide) (fun c12 => ?_) (fun c12 => ?_)
      · have hf := (if_pos c12).symm.trans hf
        exact B61 σ y0 v7 u1 u2 u3 _ _ _ hf hP hS (lv_sub hl [1, 2, 3, 4] rfl)
      · have hf := (if_neg c12).symm.trans hf
        refine lv_iload_n hx hb dX9_ask_44 rfl (lv_at hl 3 rfl) ?_
        refine lv_aload_n hx hb dX9_ask_45 rfl (lv_at hl 1 rfl) ?_
        refine va_get (D := zt_D G) (ci := 8) (v := .ref (zt_ad G 95)) (C := RX9) (T := TX9) (N := 37) hx hb hts inX9 hown hK hP 94 (zt_a8 (rfl : zt_kd 94 = 8)) rfl 3 (by decide) fl13 (fun _ h9 => h9) rfl dX9_ask_46 ?_
        refine lv_iload_n hx hb dX9_ask_49 rfl (lv_at hl 2 rfl) ?_
        obtain ⟨g13, hf⟩ := zt_gd_some hf
        refine va_iald hx hb hK hP 95 0 zt_a_95 rfl (zt_gI_in g13) dX9_ask_50 ?_
        obtain ⟨v14, hvv14, hf⟩ := zt_bd_some hf
        refine va_calli (va_runS (As := [.int u2, .int (σ 95 u1.toNatClampNeg)]) (rest := [.int y0, .int v7, .ref (zt_ad G 94)]) ⟨hx, hb, hml, hown, hts⟩ (m_X9_isUnder l G (σ := σ) hvv14) (va_cwS 2 hts gX9_ask_X9_isUnder rfl rfl rfl zh_X9_isUnder ⟨Nat.le_of_ble_eq_true rfl, Nat.le_of_ble_eq_true rfl⟩) ⟨zt_blind, fun U hU hW => ⟨rfl, zt_go hE hP hS zt_id hU hW⟩⟩ rfl rfl hl.1 rfl (lv_room (Nat.le_of_ble_eq_true rfl)) dX9_ask_51 ⟨Nat.zero_le _, Nat.zero_le _⟩) hS (fun _ _ h => h) (fun _ h => h) (fun r u t H locs ht hvm hw hB _ _ hS => ?_)
        rw [hw.1]; have hB : zt_B G u t := hB; rw [hw.2] at hB; have hP := zt_B.P hB ht
        refine lv_if_eq (tgt := 61) hx hb dX9_ask_54 (by decide) (fun c16 => ?_) (fun c16 => ?_)
        · have hf := (if_pos c16).symm.trans hf
          exact B61 σ y0 v7 u1 u2 u3 _ _ _ hf hP hS (lv_sub hl [1, 2, 3, 4] rfl)
        · have hf := (if_neg c16).symm.trans hf
          refine lv_iconst (v := 1) hx hb dX9_ask_57 (by decide) ?_
          refine lv_goto (tgt := 62) hx hb dX9_ask_58 (by decide) ?_
          exact B62 σ 1 y0 v7 u1 u2 u3 _ _ _ hf hP hS (lv_sub hl [1, 2, 3, 4] rfl)
  have B20 : ∀ (σ : zt_St) (u1 : Int32) (u2 : Int32) (u3 : Int32) (H : Heap) (locs : List Loc) (ls : Array Slot), f_X9_ask_20 σ u1 u2 u3 = some (r, σ1) → va_P (zt_D G) vwCl (zt_ww G σ) H → va_S (zt_A G) s.heap H locs → lv_has ls 6 [(0, .ref (zt_ad G 94)), (1, .int u1), (2, .int u2), (3, .int u3)] → W p l e (zt_R 6 147) s m ([.ref (zt_ad G 94), .int x1, .int x2, .int x3] : List Value).toArray below meth c H locs 0 0 (MQ below (zt_Ci G r σ1) ([.ref (zt_ad G 94), .int x1, .int x2, .int x3] : List Value).toArray s 0 0 (zt_A G)) (F0 m 20 ls []) := by
    intro σ u1 u2 u3 H locs ls hf hP hS hl
    unfold f_X9_ask_20 at hf
    refine lv_iconst (v := 0) hx hb dX9_ask_20 (by decide) ?_
    exact B21 σ 0 u1 u2 u3 _ _ _ hf hP hS (lv_sub hl [0, 1, 2, 3] rfl)
  unfold f_X9_ask at hf
  refine lv_iload_n hx hb dX9_ask_0 rfl (lv_at hl 2 rfl) ?_
  obtain ⟨v1, hvv1, hf⟩ := zt_bd_some hf
  refine va_calli (va_runS (As := [.int x2]) (rest := []) ⟨hx, hb, hml, hown, hts⟩ (m_X9_isName l G (σ := σ) hvv1) (va_cwS 1 hts gX9_ask_X9_isName rfl rfl rfl zh_X9_isName ⟨Nat.le_of_ble_eq_true rfl, Nat.le_of_ble_eq_true rfl⟩) ⟨zt_blind, fun U hU hW => ⟨rfl, zt_go hE hP hS zt_id hU hW⟩⟩ rfl rfl hl.1 rfl (lv_room (Nat.le_of_ble_eq_true rfl)) dX9_ask_1 ⟨Nat.zero_le _, Nat.zero_le _⟩) hS (fun _ _ h => h) (fun _ h => h) (fun r u t H locs ht hvm hw hB _ _ hS => ?_)
  rw [hw.1]; have hB : zt_B G u t := hB; rw [hw.2] at hB; have hP := zt_B.P hB ht
  refine lv_if_eq (tgt := 20) hx hb dX9_ask_4 (by decide) (fun c3 => ?_) (fun c3 => ?_)
  · have hf := (if_pos c3).symm.trans hf
    exact B20 σ x1 x2 x3 _ _ _ hf hP hS (lv_sub hl [0, 1, 2, 3] rfl)
  · have hf := (if_neg c3).symm.trans hf
    refine lv_iload_n hx hb dX9_ask_7 rfl (lv_at hl 3 rfl) ?_
    refine lv_iconst (v := 0) hx hb dX9_ask_8 (by decide) ?_
    refine lv_iconst (v := 4) hx hb dX9_ask_9 (by decide) ?_
    obtain ⟨v4, hvv4, hf⟩ := zt_bd_some hf
    refine va_calli (va_runS (As := [.int x3, .int 0, .int 4]) (rest := []) ⟨hx, hb, hml, hown, hts⟩ (m_X9_in l G (σ := σ) hvv4) (va_cwS 3 hts gX9_ask_X9_in rfl rfl rfl zh_X9_in ⟨Nat.le_of_ble_eq_true rfl, Nat.le_of_ble_eq_true rfl⟩) ⟨zt_blind, fun U hU hW => ⟨rfl, zt_go hE hP hS zt_id hU hW⟩⟩ rfl rfl hl.1 rfl (lv_room (Nat.le_of_ble_eq_true rfl)) dX9_ask_10 ⟨Nat.zero_le _, Nat.zero_le _⟩) hS (fun _ _ h => h) (fun _ h => h) (fun r u t H locs ht hvm hw hB _ _ hS => ?_)
    rw [hw.1]; have hB : zt_B G u t := hB; rw [hw.2] at hB; have hP := zt_B.P hB ht
    refine lv_if_eq (tgt := 20) hx hb dX9_ask_13 (by decide) (fun c6 => ?_) (fun c6 => ?_)
    · have hf := (if_pos c6).symm.trans hf
      exact B20 σ x1 x2 x3 _ _ _ hf hP hS (lv_sub hl [0, 1, 2, 3] rfl)
    · have hf := (if_neg c6).symm.trans hf
      refine lv_iconst (v := 1) hx hb dX9_ask_16 (by decide) ?_
      refine lv_goto (tgt := 21) hx hb dX9_ask_17 (by decide) ?_
      exact B21 σ 1 x1 x2 x3 _ _ _ hf hP hS (lv_sub hl [0, 1, 2, 3] rfl)

theorem zh_X9_told : yX9_told.cls = RX9 ∧ yX9_told.cls ≠ "java/lang/invoke/MethodHandle" ∧ yX9_told.cls ≠ "java/lang/invoke/VarHandle" ∧ (parseMethodDescriptor yX9_told.desc).map (fun d => d.parameters.length) = some 1 := by decide +kernel
set_option maxHeartbeats 4000000 in
set_option maxRecDepth 100000 in
theorem m_X9_told (l : Launch) (G : zt_G) {σ : zt_St} {x1 : Int32} {r : Int32} {σ1 : zt_St} (hf : f_X9_told σ x1 = some (r, σ1)) : zt_Mi l G yX9_told wsX9_told 1 22 [.ref (zt_ad G 94), .int x1] σ r σ1 := by
  refine Met.ofW (cc := cX9_told) (maxL := 2) (ret := (some .int)) (by decide) rfl ?_
  intro p e s m args below meth c s₁ B hml hv
  obtain ⟨rfl, hBB⟩ := hv
  have hE := zt_B.env hBB; have hK := hE.2.1; have hP := hBB.2.1
  have hx := B.exec; have hb := B.bytes; have hr := B.returns; have hts := atoms_spec (ws := wsX9_told) B.pre
  have hown : s.vm.findClass RX9 = some m.cls := findClass_of_methodNamed B.named
  have hlocks := B.notSynchronized
  have hS : va_S (zt_A G) s.heap s.heap [] := va_S.rf
  have hl := lv_entry ([.ref (zt_ad G 94), .int x1]) (n := 2) (Nat.le_of_ble_eq_true rfl)
  rw [lg_entry_eq]
  generalize (lg_sl ([.ref (zt_ad G 94), .int x1]) ++ List.replicate (2 - (lg_sl ([.ref (zt_ad G 94), .int x1])).length) Slot.unset).toArray = ls at hl ⊢
  have hl : lv_has ls 2 [(0, .ref (zt_ad G 94)), (1, .int x1)] := hl
  show W p l e (zt_R 1 22) s m ([.ref (zt_ad G 94), .int x1] : List Value).toArray below meth c s.heap [] 0 0 (MQ below (zt_Ci G r σ1) ([.ref (zt_ad G 94), .int x1] : List Value).toArray s 0 0 (zt_A G)) (F0 m 0 ls [])
  have fl96 := hts (.fieldLink RX9 96 "ZoneTreeModel" "told" "[I") (List.mem_cons_of_mem _ (List.mem_append_left _ (List.mem_of_getElem? (i := 0) rfl)))
  have inX9 : ∀ w ∈ wsX90, w ∈ wsX9_told := fun w h => (List.mem_cons_of_mem _ (List.mem_append_right _ h))
  unfold f_X9_told at hf
  refine lv_aload_n hx hb dX9_told_0 rfl (lv_at hl 0 rfl) ?_
  refine lv_iload_n hx hb dX9_told_1 rfl (lv_at hl 1 rfl) ?_
  refine lv_iconst (v := 0) hx hb dX9_told_2 (by decide) ?_
  refine lv_iconst (v := 4) hx hb dX9_told_3 (by decide) ?_
  obtain ⟨v1, hvv1, hf⟩ := zt_bd_some hf
  refine va_calli (va_runS (As := [.int x1, .int 0, .int 4]) (rest := [.ref (zt_ad G 94)]) ⟨hx, hb, hml, hown, hts⟩ (m_X9_in l G (σ := σ) hvv1) (va_cwS 3 hts gX9_told_X9_in rfl rfl rfl zh_X9_in ⟨Nat.le_of_ble_eq_true rfl, Nat.le_of_ble_eq_true rfl⟩) ⟨zt_blind, fun U hU hW => ⟨rfl, zt_go hE hP hS zt_id hU hW⟩⟩ rfl rfl hl.1 rfl (lv_room (Nat.le_of_ble_eq_true rfl)) dX9_told_4 ⟨Nat.zero_le _, Nat.zero_le _⟩) hS (fun _ _ h => h) (fun _ h => h) (fun r u t H locs ht hvm hw hB _ _ hS => ?_)
  rw [hw.1]; have hB : zt_B G u t := hB; rw [hw.2] at hB; have hP := zt_B.P hB ht
  obtain ⟨⟨v3a, σ4a⟩, hvv3, hf⟩ := zt_bd_some hf
  obtain ⟨v3, hv3, hf⟩ := zt_lt_some hf; obtain ⟨σ4, hσ4, hf⟩ := zt_lt_some hf; rw [show (v3a, σ4a) = (v3, σ4) from by rw [hv3, hσ4]] at hvv3
  refine va_calli (va_runV (As := [.int v1]) (rest := []) ⟨hx, hb, hml, hown, hts⟩ (m_X9_asked l G (σ := σ) hvv3) (cwV 1 hts gX9_told_X9_asked rfl rfl rfl zh_X9_asked ⟨Nat.le_of_ble_eq_true rfl, Nat.le_of_ble_eq_true rfl⟩) ⟨zt_blind, va_recv hK hP (ci := 8) (q0 := 94) rfl (zt_a8 (rfl : zt_kd 94 = 8)), fun U hU hW => ⟨rfl, zt_go hE hP hS zt_id hU hW⟩⟩ rfl rfl hl.1 rfl (lv_room (Nat.le_of_ble_eq_true rfl)) dX9_told_7 ⟨Nat.zero_le _, Nat.zero_le _⟩) hS (fun _ _ h => h) (fun _ h => h) (fun r u t H locs ht hvm hw hB _ _ hS => ?_)
  rw [hw.1]; have hB : zt_B G u t := hB; rw [hw.2] at hB; have hP := zt_B.P hB ht
  refine lv_if_eq (tgt := 22) hx hb dX9_told_10 (by decide) (fun c6 => ?_) (fun c6 => ?_)
  · have hf := (if_pos c6).symm.trans hf
    refine lv_iconst (v := 0) hx hb dX9_told_22 (by decide) ?_
    exact W.iret hx hb hr (fun t ht hW => ⟨⟨_, _, rfl, (Prod.mk.inj (Option.some.inj hf)), zt_go hE hP hS zt_id ht hW⟩, hS.F ht⟩) hS.2.2 dX9_told_23
  · have hf := (if_neg c6).symm.trans hf
    refine lv_aload_n hx hb dX9_told_13 rfl (lv_at hl 0 rfl) ?_
    refine va_get (D := zt_D G) (ci := 8) (v := .ref (zt_ad G 121)) (C := RX9) (T := TX9) (N := 37) hx hb hts inX9 hown hK hP 94 (zt_a8 (rfl : zt_kd 94 = 8)) rfl 35 (by decide) fl96 (fun _ h9 => h9) rfl dX9_told_14 ?_
    refine lv_iload_n hx hb dX9_told_17 rfl (lv_at hl 1 rfl) ?_
    obtain ⟨g7, hf⟩ := zt_gd_some hf
    refine va_iald hx hb hK hP 121 0 zt_a_121 rfl (zt_gI_in g7) dX9_told_18 ?_
    refine lv_goto (tgt := 23) hx hb dX9_told_19 (by decide) ?_
    exact W.iret hx hb hr (fun t ht hW => ⟨⟨_, _, rfl, (Prod.mk.inj (Option.some.inj hf)), zt_go hE hP hS zt_id ht hW⟩, hS.F ht⟩) hS.2.2 dX9_told_23

theorem zh_X9_nearer : yX9_nearer.cls = RX9 ∧ yX9_nearer.cls ≠ "java/lang/invoke/MethodHandle" ∧ yX9_nearer.cls ≠ "java/lang/invoke/VarHandle" ∧ (parseMethodDescriptor yX9_nearer.desc).map (fun d => d.parameters.length) = some 5 := by decide +kernel
set_option maxHeartbeats 4000000 in
set_option maxRecDepth 100000 in
theorem m_X9_nearer (l : Launch) (G : zt_G) {σ : zt_St} {x1 : Int32} {x2 : Int32} {x3 : Int32} {x4 : Int32} {x5 : Int32} {r : Int32} (hf : f_X9_nearer σ x1 x2 x3 x4 x5 = some r) : zt_Mi l G yX9_nearer wsX9_nearer 4 89 [.ref (zt_ad G 94), .int x1, .int x2, .int x3, .int x4, .int x5] σ r σ := by
  refine Met.ofW (cc := cX9_nearer) (maxL := 7) (ret := (some .int)) (by decide) rfl ?_
  intro p e s m args below meth c s₁ B hml hv
  obtain ⟨rfl, hBB⟩ := hv
  have hE := zt_B.env hBB; have hK := hE.2.1; have hP := hBB.2.1
  have hx := B.exec; have hb := B.bytes; have hr := B.returns; have hts := atoms_spec (ws := wsX9_nearer) B.pre
  have hown : s.vm.findClass RX9 = some m.cls := findClass_of_methodNamed B.named
  have hlocks := B.notSynchronized
  have hS : va_S (zt_A G) s.heap s.heap [] := va_S.rf
  have hl := lv_entry ([.ref (zt_ad G 94), .int x1, .int x2, .int x3, .int x4, .int x5]) (n := 7) (Nat.le_of_ble_eq_true rfl)
  rw [lg_entry_eq]
  generalize (lg_sl ([.ref (zt_ad G 94), .int x1, .int x2, .int x3, .int x4, .int x5]) ++ List.replicate (7 - (lg_sl ([.ref (zt_ad G 94), .int x1, .int x2, .int x3, .int x4, .int x5])).length) Slot.unset).toArray = ls at hl ⊢
  have hl : lv_has ls 7 [(0, .ref (zt_ad G 94)), (1, .int x1), (2, .int x2), (3, .int x3), (4, .int x4), (5, .int x5)] := hl
  show W p l e (zt_R 4 89) s m ([.ref (zt_ad G 94), .int x1, .int x2, .int x3, .int x4, .int x5] : List Value).toArray below meth c s.heap [] 0 0 (MQ below (zt_Ci G r σ) ([.ref (zt_ad G 94), .int x1, .int x2, .int x3, .int x4, .int x5] : List Value).toArray s 0 0 (zt_A G)) (F0 m 0 ls [])
  have B71 : ∀ (u4 : Int32) (H : Heap) (locs : List Loc) (ls : Array Slot), f_X9_nearer_71 σ u4 = some r → va_P (zt_D G) vwCl (zt_ww G σ) H → va_S (zt_A G) s.heap H locs → lv_has ls 7 [(4, .int u4)] → W p l e (zt_R 4 89) s m ([.ref (zt_ad G 94), .int x1, .int x2, .int x3, .int x4, .int x5] : List Value).toArray below meth c H locs 0 0 (MQ below (zt_Ci G r σ) ([.ref (zt_ad G 94), .int x1, .int x2, .int x3, .int x4, .int x5] : List Value).toArray s 0 0 (zt_A G)) (F0 m 71 ls []) := by
    intro u4 H locs ls hf hP hS hl
    unfold f_X9_nearer_71 at hf
    refine lv_iload hx hb dX9_nearer_71 (lv_at hl 0 rfl) ?_
    refine lv_goto (tgt := 78) hx hb dX9_nearer_73 (by decide) ?_
    exact W.iret hx hb hr (fun t ht hW => ⟨⟨_, _, rfl, ⟨Option.some.inj hf, rfl⟩, zt_go hE hP hS zt_id ht hW⟩, hS.F ht⟩) hS.2.2 dX9_nearer_78
  have B67 : ∀ (y0 : Int32) (u3 : Int32) (u4 : Int32) (u5 : Int32) (H : Heap) (locs : List Loc) (ls : Array Slot), f_X9_nearer_67 σ y0 u3 u4 u5 = some r → va_P (zt_D G) vwCl (zt_ww G σ) H → va_S (zt_A G) s.heap H locs → lv_has ls 7 [(3, .int u3), (4, .int u4), (5, .int u5)] → W p l e (zt_R 4 89) s m ([.ref (zt_ad G 94), .int x1, .int x2, .int x3, .int x4, .int x5] : List Value).toArray below meth c H locs 0 0 (MQ below (zt_Ci G r σ) ([.ref (zt_ad G 94), .int x1, .int x2, .int x3, .int x4, .int x5] : List Value).toArray s 0 0 (zt_A G)) (F0 m 67 ls [.int y0]) := by
    intro y0 u3 u4 u5 H locs ls hf hP hS hl
    unfold f_X9_nearer_67 at hf
    refine lv_iload_n hx hb dX9_nearer_67 rfl (lv_at hl 0 rfl) ?_
    refine lv_icmp_ne (tgt := 76) hx hb dX9_nearer_68 (by decide) (fun c17 => ?_) (fun c17 => ?_)
    · have hf := (if_neg c17).symm.trans hf
      refine lv_iload hx hb dX9_nearer_76 (lv_at hl 2 rfl) ?_
      exact W.iret hx hb hr (fun t ht hW => ⟨⟨_, _, rfl, ⟨Option.some.inj hf, rfl⟩, zt_go hE hP hS zt_id ht hW⟩, hS.F ht⟩) hS.2.2 dX9_nearer_78
    · have hf := (if_pos c17).symm.trans hf
      exact B71 u4 _ _ _ hf hP hS (lv_sub hl [1] rfl)
  have B36 : ∀ (y0 : Int32) (u3 : Int32) (u4 : Int32) (u5 : Int32) (H : Heap) (locs : List Loc) (ls : Array Slot), f_X9_nearer_36 σ y0 u3 u4 u5 = some r → va_P (zt_D G) vwCl (zt_ww G σ) H → va_S (zt_A G) s.heap H locs → lv_has ls 7 [(3, .int u3), (4, .int u4), (5, .int u5)] → W p l e (zt_R 4 89) s m ([.ref (zt_ad G 94), .int x1, .int x2, .int x3, .int x4, .int x5] : List Value).toArray below meth c H locs 0 0 (MQ below (zt_Ci G r σ) ([.ref (zt_ad G 94), .int x1, .int x2, .int x3, .int x4, .int x5] : List Value).toArray s 0 0 (zt_A G)) (F0 m 36 ls [.int y0]) := by
    intro y0 u3 u4 u5 H locs ls hf hP hS hl
    unfold f_X9_nearer_36 at hf
    refine lv_istore (lv' := [(6, .int y0), (3, .int u3), (4, .int u4), (5, .int u5)]) hx hb dX9_nearer_36 hl (by decide) rfl (fun ls hl => ?_)
    refine lv_iload hx hb dX9_nearer_38 (lv_at hl 0 rfl) ?_
    refine lv_if_eq (tgt := 76) hx hb dX9_nearer_40 (by decide) (fun c10 => ?_) (fun c10 => ?_)
    · have hf := (if_pos c10).symm.trans hf
      refine lv_iload hx hb dX9_nearer_76 (lv_at hl 3 rfl) ?_
      exact W.iret hx hb hr (fun t ht hW => ⟨⟨_, _, rfl, ⟨Option.some.inj hf, rfl⟩, zt_go hE hP hS zt_id ht hW⟩, hS.F ht⟩) hS.2.2 dX9_nearer_78
    · have hf := (if_neg c10).symm.trans hf
      refine lv_iload hx hb dX9_nearer_43 (lv_at hl 3 rfl) ?_
      refine lv_iconst (v := (-1)) hx hb dX9_nearer_45 (by decide) ?_
      refine lv_icmp_eq (tgt := 71) hx hb dX9_nearer_46 (by decide) (fun c11 => ?_) (fun c11 => ?_)
      · have hf := (if_pos c11).symm.trans hf
        exact B71 u4 _ _ _ hf hP hS (lv_sub hl [2] rfl)
      · have hf := (if_neg c11).symm.trans hf
        refine lv_iload hx hb dX9_nearer_49 (lv_at hl 2 rfl) ?_
        obtain ⟨v12, hvv12, hf⟩ := zt_bd_some hf
        refine va_calli (va_runS (As := [.int u4]) (rest := []) ⟨hx, hb, hml, hown, hts⟩ (m_X9_order l G (σ := σ) hvv12) (va_cwS 1 hts gX9_nearer_X9_order rfl rfl rfl zh_X9_order ⟨Nat.le_of_ble_eq_true rfl, Nat.le_of_ble_eq_true rfl⟩) ⟨zt_blind, fun U hU hW => ⟨rfl, zt_go hE hP hS zt_id hU hW⟩⟩ rfl rfl hl.1 rfl (lv_room (Nat.le_of_ble_eq_true rfl)) dX9_nearer_51 ⟨Nat.zero_le _, Nat.zero_le _⟩) hS (fun _ _ h => h) (fun _ h => h) (fun r u t H locs ht hvm hw hB _ _ hS => ?_)
        rw [hw.1]; have hB : zt_B G u t := hB; rw [hw.2] at hB; have hP := zt_B.P hB ht
        refine lv_iload hx hb dX9_nearer_54 (lv_at hl 3 rfl) ?_
        obtain ⟨v14, hvv14, hf⟩ := zt_bd_some hf
        refine va_calli (va_runS (As := [.int u5]) (rest := [.int v12]) ⟨hx, hb, hml, hown, hts⟩ (m_X9_order l G (σ := σ) hvv14) (va_cwS 1 hts gX9_nearer_X9_order rfl rfl rfl zh_X9_order ⟨Nat.le_of_ble_eq_true rfl, Nat.le_of_ble_eq_true rfl⟩) ⟨zt_blind, fun U hU hW => ⟨rfl, zt_go hE hP hS zt_id hU hW⟩⟩ rfl rfl hl.1 rfl (lv_room (Nat.le_of_ble_eq_true rfl)) dX9_nearer_56 ⟨Nat.zero_le _, Nat.zero_le _⟩) hS (fun _ _ h => h) (fun _ h => h) (fun r u t H locs ht hvm hw hB _ _ hS => ?_)
        rw [hw.1]; have hB : zt_B G u t := hB; rw [hw.2] at hB; have hP := zt_B.P hB ht
        refine lv_icmp_ge (tgt := 66) hx hb dX9_nearer_59 (by decide) (fun c16 => ?_) (fun c16 => ?_)
        · have hf := (if_pos c16).symm.trans hf
          refine lv_iconst (v := 0) hx hb dX9_nearer_66 (by decide) ?_
          exact B67 0 u3 u4 u5 _ _ _ hf hP hS (lv_sub hl [1, 2, 3] rfl)
        · have hf := (if_neg c16).symm.trans hf
          refine lv_iconst (v := 1) hx hb dX9_nearer_62 (by decide) ?_
          refine lv_goto (tgt := 67) hx hb dX9_nearer_63 (by decide) ?_
          exact B67 1 u3 u4 u5 _ _ _ hf hP hS (lv_sub hl [1, 2, 3] rfl)
  have B35 : ∀ (u3 : Int32) (u4 : Int32) (u5 : Int32) (H : Heap) (locs : List Loc) (ls : Array Slot), f_X9_nearer_35 σ u3 u4 u5 = some r → va_P (zt_D G) vwCl (zt_ww G σ) H → va_S (zt_A G) s.heap H locs → lv_has ls 7 [(3, .int u3), (4, .int u4), (5, .int u5)] → W p l e (zt_R 4 89) s m ([.ref (zt_ad G 94), .int x1, .int x2, .int x3, .int x4, .int x5] : List Value).toArray below meth c H locs 0 0 (MQ below (zt_Ci G r σ) ([.ref (zt_ad G 94), .int x1, .int x2, .int x3, .int x4, .int x5] : List Value).toArray s 0 0 (zt_A G)) (F0 m 35 ls []) := by
    intro u3 u4 u5 H locs ls hf hP hS hl
    unfold f_X9_nearer_35 at hf
    refine lv_iconst (v := 0) hx hb dX9_nearer_35 (by decide) ?_
    exact B36 0 u3 u4 u5 _ _ _ hf hP hS (lv_sub hl [0, 1, 2] rfl)
  have B27 : ∀ (y0 : Int32) (u3 : Int32) (u4 : Int32) (u5 : Int32) (H : Heap) (locs : List Loc) (ls : Array Slot), f_X9_nearer_27 σ y0 u3 u4 u5 = some r → va_P (zt_D G) vwCl (zt_ww G σ) H → va_S (zt_A G) s.heap H locs → lv_has ls 7 [(3, .int u3), (4, .int u4), (5, .int u5)] → W p l e (zt_R 4 89) s m ([.ref (zt_ad G 94), .int x1, .int x2, .int x3, .int x4, .int x5] : List Value).toArray below meth c H locs 0 0 (MQ below (zt_Ci G r σ) ([.ref (zt_ad G 94), .int x1, .int x2, .int x3, .int x4, .int x5] : List Value).toArray s 0 0 (zt_A G)) (F0 m 27 ls [.int y0]) := by
    intro y0 u3 u4 u5 H locs ls hf hP hS hl
    unfold f_X9_nearer_27 at hf
    refine lv_iload_n hx hb dX9_nearer_27 rfl (lv_at hl 0 rfl) ?_
    refine lv_icmp_ne (tgt := 35) hx hb dX9_nearer_28 (by decide) (fun c9 => ?_) (fun c9 => ?_)
    · have hf := (if_neg c9).symm.trans hf
      exact B35 u3 u4 u5 _ _ _ hf hP hS (lv_sub hl [0, 1, 2] rfl)
    · have hf := (if_pos c9).symm.trans hf
      refine lv_iconst (v := 1) hx hb dX9_nearer_31 (by decide) ?_
      refine lv_goto (tgt := 36) hx hb dX9_nearer_32 (by decide) ?_
      exact B36 1 u3 u4 u5 _ _ _ hf hP hS (lv_sub hl [0, 1, 2] rfl)
  unfold f_X9_nearer at hf
  refine lv_aload_n hx hb dX9_nearer_0 rfl (lv_at hl 0 rfl) ?_
  refine lv_iload_n hx hb dX9_nearer_1 rfl (lv_at hl 1 rfl) ?_
  refine lv_iload hx hb dX9_nearer_2 (lv_at hl 4 rfl) ?_
  obtain ⟨v1, hvv1, hf⟩ := zt_bd_some hf
  refine va_calli (va_runV (As := [.int x1, .int x4]) (rest := []) ⟨hx, hb, hml, hown, hts⟩ (m_X9_isOwn l G (σ := σ) hvv1) (cwV 2 hts gX9_nearer_X9_isOwn rfl rfl rfl zh_X9_isOwn ⟨Nat.le_of_ble_eq_true rfl, Nat.le_of_ble_eq_true rfl⟩) ⟨zt_blind, va_recv hK hP (ci := 8) (q0 := 94) rfl (zt_a8 (rfl : zt_kd 94 = 8)), fun U hU hW => ⟨rfl, zt_go hE hP hS zt_id hU hW⟩⟩ rfl rfl hl.1 rfl (lv_room (Nat.le_of_ble_eq_true rfl)) dX9_nearer_4 ⟨Nat.zero_le _, Nat.zero_le _⟩) hS (fun _ _ h => h) (fun _ h => h) (fun r u t H locs ht hvm hw hB _ _ hS => ?_)
  rw [hw.1]; have hB : zt_B G u t := hB; rw [hw.2] at hB; have hP := zt_B.P hB ht
  refine lv_if_eq (tgt := 35) hx hb dX9_nearer_7 (by decide) (fun c3 => ?_) (fun c3 => ?_)
  · have hf := (if_pos c3).symm.trans hf
    exact B35 x3 x4 x5 _ _ _ hf hP hS (lv_sub hl [3, 4, 5] rfl)
  · have hf := (if_neg c3).symm.trans hf
    refine lv_iload hx hb dX9_nearer_10 (lv_at hl 4 rfl) ?_
    obtain ⟨v4, hvv4, hf⟩ := zt_bd_some hf
    refine va_calli (va_runS (As := [.int x4]) (rest := []) ⟨hx, hb, hml, hown, hts⟩ (m_X9_order l G (σ := σ) hvv4) (va_cwS 1 hts gX9_nearer_X9_order rfl rfl rfl zh_X9_order ⟨Nat.le_of_ble_eq_true rfl, Nat.le_of_ble_eq_true rfl⟩) ⟨zt_blind, fun U hU hW => ⟨rfl, zt_go hE hP hS zt_id hU hW⟩⟩ rfl rfl hl.1 rfl (lv_room (Nat.le_of_ble_eq_true rfl)) dX9_nearer_12 ⟨Nat.zero_le _, Nat.zero_le _⟩) hS (fun _ _ h => h) (fun _ h => h) (fun r u t H locs ht hvm hw hB _ _ hS => ?_)
    rw [hw.1]; have hB : zt_B G u t := hB; rw [hw.2] at hB; have hP := zt_B.P hB ht
    refine lv_iload_n hx hb dX9_nearer_15 rfl (lv_at hl 2 rfl) ?_
    obtain ⟨v6, hvv6, hf⟩ := zt_bd_some hf
    refine va_calli (va_runS (As := [.int x2]) (rest := [.int v4]) ⟨hx, hb, hml, hown, hts⟩ (m_X9_order l G (σ := σ) hvv6) (va_cwS 1 hts gX9_nearer_X9_order rfl rfl rfl zh_X9_order ⟨Nat.le_of_ble_eq_true rfl, Nat.le_of_ble_eq_true rfl⟩) ⟨zt_blind, fun U hU hW => ⟨rfl, zt_go hE hP hS zt_id hU hW⟩⟩ rfl rfl hl.1 rfl (lv_room (Nat.le_of_ble_eq_true rfl)) dX9_nearer_16 ⟨Nat.zero_le _, Nat.zero_le _⟩) hS (fun _ _ h => h) (fun _ h => h) (fun r u t H locs ht hvm hw hB _ _ hS => ?_)
    rw [hw.1]; have hB : zt_B G u t := hB; rw [hw.2] at hB; have hP := zt_B.P hB ht
    refine lv_icmp_le (tgt := 26) hx hb dX9_nearer_19 (by decide) (fun c8 => ?_) (fun c8 => ?_)
    · have hf := (if_pos c8).symm.trans hf
      refine lv_iconst (v := 0) hx hb dX9_nearer_26 (by decide) ?_
      exact B27 0 x3 x4 x5 _ _ _ hf hP hS (lv_sub hl [3, 4, 5] rfl)
    · have hf := (if_neg c8).symm.trans hf
      refine lv_iconst (v := 1) hx hb dX9_nearer_22 (by decide) ?_
      refine lv_goto (tgt := 27) hx hb dX9_nearer_23 (by decide) ?_
      exact B27 1 x3 x4 x5 _ _ _ hf hP hS (lv_sub hl [3, 4, 5] rfl)

theorem zh_X9_neighbour : yX9_neighbour.cls = RX9 ∧ yX9_neighbour.cls ≠ "java/lang/invoke/MethodHandle" ∧ yX9_neighbour.cls ≠ "java/lang/invoke/VarHandle" ∧ (parseMethodDescriptor yX9_neighbour.desc).map (fun d => d.parameters.length) = some 3 := by decide +kernel
set_option maxHeartbeats 4000000 in
set_option maxRecDepth 100000 in
theorem m_X9_neighbour (l : Launch) (G : zt_G) {σ : zt_St} {x1 : Int32} {x2 : Int32} {x3 : Int32} {r : Int32} {σ1 : zt_St} (hf : f_X9_neighbour σ x1 x2 x3 = some (r, σ1)) : zt_Mi l G yX9_neighbour wsX9_neighbour 5 115 [.ref (zt_ad G 94), .int x1, .int x2, .int x3] σ r σ1 := by
  refine Met.ofW (cc := cX9_neighbour) (maxL := 7) (ret := (some .int)) (by decide) rfl ?_
  intro p e s m args below meth c s₁ B hml hv
  obtain ⟨rfl, hBB⟩ := hv
  have hE := zt_B.env hBB; have hK := hE.2.1; have hP := hBB.2.1
  have hx := B.exec; have hb := B.bytes; have hr := B.returns; have hts := atoms_spec (ws := wsX9_neighbour) B.pre
  have hown : s.vm.findClass RX9 = some m.cls := findClass_of_methodNamed B.named
  have hlocks := B.notSynchronized
  have hS : va_S (zt_A G) s.heap s.heap [] := va_S.rf
  have hl := lv_entry ([.ref (zt_ad G 94), .int x1, .int x2, .int x3]) (n := 7) (Nat.le_of_ble_eq_true rfl)
  rw [lg_entry_eq]
  generalize (lg_sl ([.ref (zt_ad G 94), .int x1, .int x2, .int x3]) ++ List.replicate (7 - (lg_sl ([.ref (zt_ad G 94), .int x1, .int x2, .int x3])).length) Slot.unset).toArray = ls at hl ⊢
  have hl : lv_has ls 7 [(0, .ref (zt_ad G 94)), (1, .int x1), (2, .int x2), (3, .int x3)] := hl
  show W p l e (zt_R 5 115) s m ([.ref (zt_ad G 94), .int x1, .int x2, .int x3] : List Value).toArray below meth c s.heap [] 0 0 (MQ below (zt_Ci G r σ1) ([.ref (zt_ad G 94), .int x1, .int x2, .int x3] : List Value).toArray s 0 0 (zt_A G)) (F0 m 0 ls [])
  have fl13 := hts (.fieldLink RX9 13 "ZoneTreeModel" "apex" "[I") (List.mem_cons_of_mem _ (List.mem_append_left _ (List.mem_append_left _ (List.mem_of_getElem? (i := 1) rfl))))
  have fl42 := hts (.fieldLink RX9 42 "ZoneTreeModel" "many" "[I") (List.mem_cons_of_mem _ (List.mem_append_left _ (List.mem_append_left _ (List.mem_of_getElem? (i := 0) rfl))))
  have fl45 := hts (.fieldLink RX9 45 "ZoneTreeModel" "name" "[I") (List.mem_cons_of_mem _ (List.mem_append_left _ (List.mem_append_left _ (List.mem_of_getElem? (i := 2) rfl))))
  have inX9 : ∀ w ∈ wsX90, w ∈ wsX9_neighbour := fun w h => (List.mem_cons_of_mem _ (List.mem_append_right _ h))
  have B54 : ∀ (rc27 : zt_St → Int32 → Int32 → Int32 → Int32 → Int32 → Option (Int32 × zt_St)) (hrc27 : ∀ (σ : zt_St) (u1 : Int32) (u2 : Int32) (u3 : Int32) (u4 : Int32) (u5 : Int32) (H : Heap) (locs : List Loc) (ls : Array Slot), rc27 σ u1 u2 u3 u4 u5 = some (r, σ1) → va_P (zt_D G) vwCl (zt_ww G σ) H → va_S (zt_A G) s.heap H locs → lv_has ls 7 [(0, .ref (zt_ad G 94)), (1, .int u1), (2, .int u2), (3, .int u3), (4, .int u4), (5, .int u5)] → W p l e (zt_R 5 115) s m ([.ref (zt_ad G 94), .int x1, .int x2, .int x3] : List Value).toArray below meth c H locs 0 0 (MQ below (zt_Ci G r σ1) ([.ref (zt_ad G 94), .int x1, .int x2, .int x3] : List Value).toArray s 0 0 (zt_A G)) (F0 m 27 ls [])), ∀ (n : Nat), ∀ (σ : zt_St) (u1 : Int32) (u2 : Int32) (u3 : Int32) (u4 : Int32) (u5 : Int32) (u6 : Int32) (H : Heap) (locs : List Loc) (ls : Array Slot), f_X9_neighbour_54 rc27 n σ u1 u2 u3 u4 u5 u6 = some (r, σ1) → va_P (zt_D G) vwCl (zt_ww G σ) H → va_S (zt_A G) s.heap H locs → lv_has ls 7 [(0, .ref (zt_ad G 94)), (1, .int u1), (2, .int u2), (3, .int u3), (4, .int u4), (5, .int u5), (6, .int u6)] → W p l e (zt_R 5 115) s m ([.ref (zt_ad G 94), .int x1, .int x2, .int x3] : List Value).toArray below meth c H locs 0 0 (MQ below (zt_Ci G r σ1) ([.ref (zt_ad G 94), .int x1, .int x2, .int x3] : List Value).toArray s 0 0 (zt_A G)) (F0 m 54 ls []) := by
    intro rc27 hrc27 n
    induction n with
    | zero => intro σ u1 u2 u3 u4 u5 u6 H locs ls hf; exact nomatch hf
    | succ n hrc54 =>
      intro σ u1 u2 u3 u4 u5 u6 H locs ls hf hP hS hl
      generalize hrcg : f_X9_neighbour_54 rc27 n = rc54 at hrc54
      have hf : f_X9_neighbour_54b rc27 rc54 σ u1 u2 u3 u4 u5 u6 = some (r, σ1) := by rw [← hrcg]; exact hf
      unfold f_X9_neighbour_54b at hf
      refine lv_iload hx hb dX9_neighbour_54 (lv_at hl 6 rfl) ?_
      refine lv_aload_n hx hb dX9_neighbour_56 rfl (lv_at hl 0 rfl) ?_
      refine va_get (D := zt_D G) (ci := 8) (v := .ref (zt_ad G 104)) (C := RX9) (T := TX9) (N := 37) hx hb hts inX9 hown hK hP 94 (zt_a8 (rfl : zt_kd 94 = 8)) rfl 13 (by decide) fl45 (fun _ h9 => h9) rfl dX9_neighbour_57 ?_
      refine lv_iload hx hb dX9_neighbour_60 (lv_at hl 5 rfl) ?_
      obtain ⟨g14, hf⟩ := zt_gd_some hf
      refine va_iald hx hb hK hP 104 0 zt_a_104 rfl (zt_gI_in g14) dX9_neighbour_62 ?_
      obtain ⟨v15, hvv15, hf⟩ := zt_bd_some hf
      refine va_calli (va_runS (As := [.int (σ 104 u5.toNatClampNeg)]) (rest := [.int u6]) ⟨hx, hb, hml, hown, hts⟩ (m_X9_base l G (σ := σ) hvv15) (va_cwS 1 hts gX9_neighbour_X9_base rfl rfl rfl zh_X9_base ⟨Nat.le_of_ble_eq_true rfl, Nat.le_of_ble_eq_true rfl⟩) ⟨zt_blind, fun U hU hW => ⟨rfl, zt_go hE hP hS zt_id hU hW⟩⟩ rfl rfl hl.1 rfl (lv_room (Nat.le_of_ble_eq_true rfl)) dX9_neighbour_63 ⟨Nat.zero_le _, Nat.zero_le _⟩) hS (fun _ _ h => h) (fun _ h => h) (fun r u t H locs ht hvm hw hB _ _ hS => ?_)
      rw [hw.1]; have hB : zt_B G u t := hB; rw [hw.2] at hB; have hP := zt_B.P hB ht
      obtain ⟨v17, hvv17, hf⟩ := zt_bd_some hf
      refine va_calli (va_runS (As := [.int v15]) (rest := [.int u6]) ⟨hx, hb, hml, hown, hts⟩ (m_X9_figures l G (σ := σ) hvv17) (va_cwS 1 hts gX9_neighbour_X9_figures rfl rfl rfl zh_X9_figures ⟨Nat.le_of_ble_eq_true rfl, Nat.le_of_ble_eq_true rfl⟩) ⟨zt_blind, fun U hU hW => ⟨rfl, zt_go hE hP hS zt_id hU hW⟩⟩ rfl rfl hl.1 rfl (lv_room (Nat.le_of_ble_eq_true rfl)) dX9_neighbour_66 ⟨Nat.zero_le _, Nat.zero_le _⟩) hS (fun _ _ h => h) (fun _ h => h) (fun r u t H locs ht hvm hw hB _ _ hS => ?_)
      rw [hw.1]; have hB : zt_B G u t := hB; rw [hw.2] at hB; have hP := zt_B.P hB ht
      refine lv_icmp_gt (tgt := 104) hx hb dX9_neighbour_69 (by decide) (fun c19 => ?_) (fun c19 => ?_)
      · have hf := (if_pos c19).symm.trans hf
        refine lv_aload_n hx hb dX9_neighbour_104 rfl (lv_at hl 0 rfl) ?_
        refine lv_iload_n hx hb dX9_neighbour_105 rfl (lv_at hl 1 rfl) ?_
        refine lv_iload_n hx hb dX9_neighbour_106 rfl (lv_at hl 2 rfl) ?_
        refine lv_iload_n hx hb dX9_neighbour_107 rfl (lv_at hl 3 rfl) ?_
        refine lv_aload_n hx hb dX9_neighbour_108 rfl (lv_at hl 0 rfl) ?_
        refine va_get (D := zt_D G) (ci := 8) (v := .ref (zt_ad G 104)) (C := RX9) (T := TX9) (N := 37) hx hb hts inX9 hown hK hP 94 (zt_a8 (rfl : zt_kd 94 = 8)) rfl 13 (by decide) fl45 (fun _ h9 => h9) rfl dX9_neighbour_109 ?_
        refine lv_iload hx hb dX9_neighbour_112 (lv_at hl 5 rfl) ?_
        obtain ⟨g20, hf⟩ := zt_gd_some hf
        refine va_iald hx hb hK hP 104 0 zt_a_104 rfl (zt_gI_in g20) dX9_neighbour_114 ?_
        refine lv_iload hx hb dX9_neighbour_115 (lv_at hl 4 rfl) ?_
        obtain ⟨v21, hvv21, hf⟩ := zt_bd_some hf
        refine va_calli (va_runV (As := [.int u1, .int u2, .int u3, .int (σ 104 u5.toNatClampNeg), .int u4]) (rest := []) ⟨hx, hb, hml, hown, hts⟩ (m_X9_nearer l G (σ := σ) hvv21) (cwV 5 hts gX9_neighbour_X9_nearer rfl rfl rfl zh_X9_nearer ⟨Nat.le_of_ble_eq_true rfl, Nat.le_of_ble_eq_true rfl⟩) ⟨zt_blind, va_recv hK hP (ci := 8) (q0 := 94) rfl (zt_a8 (rfl : zt_kd 94 = 8)), fun U hU hW => ⟨rfl, zt_go hE hP hS zt_id hU hW⟩⟩ rfl rfl hl.1 rfl (lv_room (Nat.le_of_ble_eq_true rfl)) dX9_neighbour_117 ⟨Nat.zero_le _, Nat.zero_le _⟩) hS (fun _ _ h => h) (fun _ h => h) (fun r u t H locs ht hvm hw hB _ _ hS => ?_)
        rw [hw.1]; have hB : zt_B G u t := hB; rw [hw.2] at hB; have hP := zt_B.P hB ht
        refine lv_istore (lv' := [(4, .int v21), (0, .ref (zt_ad G 94)), (1, .int u1), (2, .int u2), (3, .int u3), (5, .int u5), (6, .int u6)]) hx hb dX9_neighbour_120 hl (by decide) rfl (fun ls hl => ?_)
        refine lv_iinc (v := (u5 + 1)) (lv' := [(5, .int (u5 + 1)), (4, .int v21), (0, .ref (zt_ad G 94)), (1, .int u1), (2, .int u2), (3, .int u3), (6, .int u6)]) hx hb dX9_neighbour_122 hl (k := 5) rfl rfl (by decide) rfl (fun ls hl => ?_)
        refine lv_goto (tgt := 27) hx hb dX9_neighbour_125 (by decide) ?_
        exact hrc27 σ u1 u2 u3 v21 (u5 + 1) _ _ _ hf hP hS (lv_sub hl [2, 3, 4, 5, 1, 0] rfl)
      · have hf := (if_neg c19).symm.trans hf
        refine lv_aload_n hx hb dX9_neighbour_72 rfl (lv_at hl 0 rfl) ?_
        refine lv_iload_n hx hb dX9_neighbour_73 rfl (lv_at hl 1 rfl) ?_
        refine lv_iload_n hx hb dX9_neighbour_74 rfl (lv_at hl 2 rfl) ?_
        refine lv_iload_n hx hb dX9_neighbour_75 rfl (lv_at hl 3 rfl) ?_
        refine lv_aload_n hx hb dX9_neighbour_76 rfl (lv_at hl 0 rfl) ?_
        refine va_get (D := zt_D G) (ci := 8) (v := .ref (zt_ad G 104)) (C := RX9) (T := TX9) (N := 37) hx hb hts inX9 hown hK hP 94 (zt_a8 (rfl : zt_kd 94 = 8)) rfl 13 (by decide) fl45 (fun _ h9 => h9) rfl dX9_neighbour_77 ?_
        refine lv_iload hx hb dX9_neighbour_80 (lv_at hl 5 rfl) ?_
        obtain ⟨g23, hf⟩ := zt_gd_some hf
        refine va_iald hx hb hK hP 104 0 zt_a_104 rfl (zt_gI_in g23) dX9_neighbour_82 ?_
        obtain ⟨v24, hvv24, hf⟩ := zt_bd_some hf
        refine va_calli (va_runS (As := [.int (σ 104 u5.toNatClampNeg)]) (rest := [.int u3, .int u2, .int u1, .ref (zt_ad G 94)]) ⟨hx, hb, hml, hown, hts⟩ (m_X9_base l G (σ := σ) hvv24) (va_cwS 1 hts gX9_neighbour_X9_base rfl rfl rfl zh_X9_base ⟨Nat.le_of_ble_eq_true rfl, Nat.le_of_ble_eq_true rfl⟩) ⟨zt_blind, fun U hU hW => ⟨rfl, zt_go hE hP hS zt_id hU hW⟩⟩ rfl rfl hl.1 rfl (lv_room (Nat.le_of_ble_eq_true rfl)) dX9_neighbour_83 ⟨Nat.zero_le _, Nat.zero_le _⟩) hS (fun _ _ h => h) (fun _ h => h) (fun r u t H locs ht hvm hw hB _ _ hS => ?_)
        rw [hw.1]; have hB : zt_B G u t := hB; rw [hw.2] at hB; have hP := zt_B.P hB ht
        refine lv_iload hx hb dX9_neighbour_86 (lv_at hl 6 rfl) ?_
        obtain ⟨v26, hvv26, hf⟩ := zt_bd_some hf
        refine va_calli (va_runS (As := [.int v24, .int u6]) (rest := [.int u3, .int u2, .int u1, .ref (zt_ad G 94)]) ⟨hx, hb, hml, hown, hts⟩ (m_X9_head l G (σ := σ) hvv26) (va_cwS 2 hts gX9_neighbour_X9_head rfl rfl rfl zh_X9_head ⟨Nat.le_of_ble_eq_true rfl, Nat.le_of_ble_eq_true rfl⟩) ⟨zt_blind, fun U hU hW => ⟨rfl, zt_go hE hP hS zt_id hU hW⟩⟩ rfl rfl hl.1 rfl (lv_room (Nat.le_of_ble_eq_true rfl)) dX9_neighbour_88 ⟨Nat.zero_le _, Nat.zero_le _⟩) hS (fun _ _ h => h) (fun _ h => h) (fun r u t H locs ht hvm hw hB _ _ hS => ?_)
        rw [hw.1]; have hB : zt_B G u t := hB; rw [hw.2] at hB; have hP := zt_B.P hB ht
        refine lv_iload hx hb dX9_neighbour_91 (lv_at hl 4 rfl) ?_
        obtain ⟨v28, hvv28, hf⟩ := zt_bd_some hf
        refine va_calli (va_runV (As := [.int u1, .int u2, .int u3, .int v26, .int u4]) (rest := []) ⟨hx, hb, hml, hown, hts⟩ (m_X9_nearer l G (σ := σ) hvv28) (cwV 5 hts gX9_neighbour_X9_nearer rfl rfl rfl zh_X9_nearer ⟨Nat.le_of_ble_eq_true rfl, Nat.le_of_ble_eq_true rfl⟩) ⟨zt_blind, va_recv hK hP (ci := 8) (q0 := 94) rfl (zt_a8 (rfl : zt_kd 94 = 8)), fun U hU hW => ⟨rfl, zt_go hE hP hS zt_id hU hW⟩⟩ rfl rfl hl.1 rfl (lv_room (Nat.le_of_ble_eq_true rfl)) dX9_neighbour_93 ⟨Nat.zero_le _, Nat.zero_le _⟩) hS (fun _ _ h => h) (fun _ h => h) (fun r u t H locs ht hvm hw hB _ _ hS => ?_)
        rw [hw.1]; have hB : zt_B G u t := hB; rw [hw.2] at hB; have hP := zt_B.P hB ht
        refine lv_istore (lv' := [(4, .int v28), (0, .ref (zt_ad G 94)), (1, .int u1), (2, .int u2), (3, .int u3), (5, .int u5), (6, .int u6)]) hx hb dX9_neighbour_96 hl (by decide) rfl (fun ls hl => ?_)
        refine lv_iinc (v := (u6 + 1)) (lv' := [(6, .int (u6 + 1)), (4, .int v28), (0, .ref (zt_ad G 94)), (1, .int u1), (2, .int u2), (3, .int u3), (5, .int u5)]) hx hb dX9_neighbour_98 hl (k := 6) rfl rfl (by decide) rfl (fun ls hl => ?_)
        refine lv_goto (tgt := 54) hx hb dX9_neighbour_101 (by decide) ?_
        exact hrc54 σ u1 u2 u3 v28 u5 (u6 + 1) _ _ _ hf hP hS (lv_sub hl [2, 3, 4, 5, 1, 6, 0] rfl)
  have B27 : ∀ (n : Nat), ∀ (σ : zt_St) (u1 : Int32) (u2 : Int32) (u3 : Int32) (u4 : Int32) (u5 : Int32) (H : Heap) (locs : List Loc) (ls : Array Slot), f_X9_neighbour_27 n σ u1 u2 u3 u4 u5 = some (r, σ1) → va_P (zt_D G) vwCl (zt_ww G σ) H → va_S (zt_A G) s.heap H locs → lv_has ls 7 [(0, .ref (zt_ad G 94)), (1, .int u1), (2, .int u2), (3, .int u3), (4, .int u4), (5, .int u5)] → W p l e (zt_R 5 115) s m ([.ref (zt_ad G 94), .int x1, .int x2, .int x3] : List Value).toArray below meth c H locs 0 0 (MQ below (zt_Ci G r σ1) ([.ref (zt_ad G 94), .int x1, .int x2, .int x3] : List Value).toArray s 0 0 (zt_A G)) (F0 m 27 ls []) := by
    intro n
    induction n with
    | zero => intro σ u1 u2 u3 u4 u5 H locs ls hf; exact nomatch hf
    | succ n hrc27 =>
      intro σ u1 u2 u3 u4 u5 H locs ls hf hP hS hl
      generalize hrcg : f_X9_neighbour_27 n = rc27 at hrc27
      have hf : f_X9_neighbour_27b rc27 σ u1 u2 u3 u4 u5 = some (r, σ1) := by rw [← hrcg]; exact hf
      unfold f_X9_neighbour_27b at hf
      refine lv_iload hx hb dX9_neighbour_27 (lv_at hl 5 rfl) ?_
      refine lv_bipush (v := 32) hx hb dX9_neighbour_29 (by decide +kernel) ?_
      refine lv_iload_n hx hb dX9_neighbour_31 rfl (lv_at hl 1 rfl) ?_
      refine lv_imul hx hb dX9_neighbour_32 ?_
      refine lv_aload_n hx hb dX9_neighbour_33 rfl (lv_at hl 0 rfl) ?_
      refine va_get (D := zt_D G) (ci := 8) (v := .ref (zt_ad G 103)) (C := RX9) (T := TX9) (N := 37) hx hb hts inX9 hown hK hP 94 (zt_a8 (rfl : zt_kd 94 = 8)) rfl 12 (by decide) fl42 (fun _ h9 => h9) rfl dX9_neighbour_34 ?_
      refine lv_iload_n hx hb dX9_neighbour_37 rfl (lv_at hl 1 rfl) ?_
      obtain ⟨g9, hf⟩ := zt_gd_some hf
      refine va_iald hx hb hK hP 103 0 zt_a_103 rfl (zt_gI_in g9) dX9_neighbour_38 ?_
      refine lv_iadd hx hb dX9_neighbour_39 ?_
      refine lv_icmp_ge (tgt := 128) hx hb dX9_neighbour_40 (by decide) (fun c10 => ?_) (fun c10 => ?_)
      · have hf := (if_pos c10).symm.trans hf
        refine lv_iload hx hb dX9_neighbour_128 (lv_at hl 4 rfl) ?_
        exact W.iret hx hb hr (fun t ht hW => ⟨⟨_, _, rfl, (Prod.mk.inj (Option.some.inj hf)), zt_go hE hP hS zt_id ht hW⟩, hS.F ht⟩) hS.2.2 dX9_neighbour_130
      · have hf := (if_neg c10).symm.trans hf
        refine lv_aload_n hx hb dX9_neighbour_43 rfl (lv_at hl 0 rfl) ?_
        refine va_get (D := zt_D G) (ci := 8) (v := .ref (zt_ad G 95)) (C := RX9) (T := TX9) (N := 37) hx hb hts inX9 hown hK hP 94 (zt_a8 (rfl : zt_kd 94 = 8)) rfl 3 (by decide) fl13 (fun _ h9 => h9) rfl dX9_neighbour_44 ?_
        refine lv_iload_n hx hb dX9_neighbour_47 rfl (lv_at hl 1 rfl) ?_
        obtain ⟨g11, hf⟩ := zt_gd_some hf
        refine va_iald hx hb hK hP 95 0 zt_a_95 rfl (zt_gI_in g11) dX9_neighbour_48 ?_
        obtain ⟨v12, hvv12, hf⟩ := zt_bd_some hf
        refine va_calli (va_runS (As := [.int (σ 95 u1.toNatClampNeg)]) (rest := []) ⟨hx, hb, hml, hown, hts⟩ (m_X9_figures l G (σ := σ) hvv12) (va_cwS 1 hts gX9_neighbour_X9_figures rfl rfl rfl zh_X9_figures ⟨Nat.le_of_ble_eq_true rfl, Nat.le_of_ble_eq_true rfl⟩) ⟨zt_blind, fun U hU hW => ⟨rfl, zt_go hE hP hS zt_id hU hW⟩⟩ rfl rfl hl.1 rfl (lv_room (Nat.le_of_ble_eq_true rfl)) dX9_neighbour_49 ⟨Nat.zero_le _, Nat.zero_le _⟩) hS (fun _ _ h => h) (fun _ h => h) (fun r u t H locs ht hvm hw hB _ _ hS => ?_)
        rw [hw.1]; have hB : zt_B G u t := hB; rw [hw.2] at hB; have hP := zt_B.P hB ht
        refine lv_istore (lv' := [(6, .int v12), (0, .ref (zt_ad G 94)), (1, .int u1), (2, .int u2), (3, .int u3), (4, .int u4), (5, .int u5)]) hx hb dX9_neighbour_52 hl (by decide) rfl (fun ls hl => ?_)
        exact B54 rc27 hrc27 zt_FU σ u1 u2 u3 u4 u5 v12 _ _ _ hf hP hS (lv_sub hl [1, 2, 3, 4, 5, 6, 0] rfl)
  unfold f_X9_neighbour at hf
  refine lv_aload_n hx hb dX9_neighbour_0 rfl (lv_at hl 0 rfl) ?_
  refine lv_aload_n hx hb dX9_neighbour_1 rfl (lv_at hl 0 rfl) ?_
  refine lv_iload_n hx hb dX9_neighbour_2 rfl (lv_at hl 1 rfl) ?_
  obtain ⟨v1, hvv1, hf⟩ := zt_bd_some hf
  refine va_calli (va_runV (As := [.int x1]) (rest := [.ref (zt_ad G 94)]) ⟨hx, hb, hml, hown, hts⟩ (m_X9_isZone l G (σ := σ) hvv1) (cwV 1 hts gX9_neighbour_X9_isZone rfl rfl rfl zh_X9_isZone ⟨Nat.le_of_ble_eq_true rfl, Nat.le_of_ble_eq_true rfl⟩) ⟨zt_blind, va_recv hK hP (ci := 8) (q0 := 94) rfl (zt_a8 (rfl : zt_kd 94 = 8)), fun U hU hW => ⟨rfl, zt_go hE hP hS zt_id hU hW⟩⟩ rfl rfl hl.1 rfl (lv_room (Nat.le_of_ble_eq_true rfl)) dX9_neighbour_3 ⟨Nat.zero_le _, Nat.zero_le _⟩) hS (fun _ _ h => h) (fun _ h => h) (fun r u t H locs ht hvm hw hB _ _ hS => ?_)
  rw [hw.1]; have hB : zt_B G u t := hB; rw [hw.2] at hB; have hP := zt_B.P hB ht
  refine lv_iload_n hx hb dX9_neighbour_6 rfl (lv_at hl 2 rfl) ?_
  obtain ⟨v3, hvv3, hf⟩ := zt_bd_some hf
  refine va_calli (va_runS (As := [.int x2]) (rest := [.int v1, .ref (zt_ad G 94)]) ⟨hx, hb, hml, hown, hts⟩ (m_X9_isPlace l G (σ := σ) hvv3) (va_cwS 1 hts gX9_neighbour_X9_isPlace rfl rfl rfl zh_X9_isPlace ⟨Nat.le_of_ble_eq_true rfl, Nat.le_of_ble_eq_true rfl⟩) ⟨zt_blind, fun U hU hW => ⟨rfl, zt_go hE hP hS zt_id hU hW⟩⟩ rfl rfl hl.1 rfl (lv_room (Nat.le_of_ble_eq_true rfl)) dX9_neighbour_7 ⟨Nat.zero_le _, Nat.zero_le _⟩) hS (fun _ _ h => h) (fun _ h => h) (fun r u t H locs ht hvm hw hB _ _ hS => ?_)
  rw [hw.1]; have hB : zt_B G u t := hB; rw [hw.2] at hB; have hP := zt_B.P hB ht
  obtain ⟨⟨v5a, σ6a⟩, hvv5, hf⟩ := zt_bd_some hf
  obtain ⟨v5, hv5, hf⟩ := zt_lt_some hf; obtain ⟨σ6, hσ6, hf⟩ := zt_lt_some hf; rw [show (v5a, σ6a) = (v5, σ6) from by rw [hv5, hσ6]] at hvv5
  refine va_calli (va_runV (As := [.int v1, .int v3]) (rest := []) ⟨hx, hb, hml, hown, hts⟩ (m_X9_asked_ l G (σ := σ) hvv5) (cwV 2 hts gX9_neighbour_X9_asked_ rfl rfl rfl zh_X9_asked_ ⟨Nat.le_of_ble_eq_true rfl, Nat.le_of_ble_eq_true rfl⟩) ⟨zt_blind, va_recv hK hP (ci := 8) (q0 := 94) rfl (zt_a8 (rfl : zt_kd 94 = 8)), fun U hU hW => ⟨rfl, zt_go hE hP hS zt_id hU hW⟩⟩ rfl rfl hl.1 rfl (lv_room (Nat.le_of_ble_eq_true rfl)) dX9_neighbour_10 ⟨Nat.zero_le _, Nat.zero_le _⟩) hS (fun _ _ h => h) (fun _ h => h) (fun r u t H locs ht hvm hw hB _ _ hS => ?_)
  rw [hw.1]; have hB : zt_B G u t := hB; rw [hw.2] at hB; have hP := zt_B.P hB ht
  refine lv_if_ne (tgt := 18) hx hb dX9_neighbour_13 (by decide) (fun c8 => ?_) (fun c8 => ?_)
  · have hf := (if_neg c8).symm.trans hf
    refine lv_iconst (v := (-1)) hx hb dX9_neighbour_18 (by decide) ?_
    refine lv_istore (lv' := [(4, .int (-1)), (0, .ref (zt_ad G 94)), (1, .int x1), (2, .int x2), (3, .int x3)]) hx hb dX9_neighbour_19 hl (by decide) rfl (fun ls hl => ?_)
    refine lv_bipush (v := 32) hx hb dX9_neighbour_21 (by decide +kernel) ?_
    refine lv_iload_n hx hb dX9_neighbour_23 rfl (lv_at hl 2 rfl) ?_
    refine lv_imul hx hb dX9_neighbour_24 ?_
    refine lv_istore (lv' := [(5, .int (32 * x1)), (4, .int (-1)), (0, .ref (zt_ad G 94)), (1, .int x1), (2, .int x2), (3, .int x3)]) hx hb dX9_neighbour_25 hl (by decide) rfl (fun ls hl => ?_)
    exact B27 zt_FU σ6 x1 x2 x3 (-1) (32 * x1) _ _ _ hf hP hS (lv_sub hl [2, 3, 4, 5, 1, 0] rfl)
  · have hf := (if_pos c8).symm.trans hf
    refine lv_iconst (v := 0) hx hb dX9_neighbour_16 (by decide) ?_
    exact W.iret hx hb hr (fun t ht hW => ⟨⟨_, _, rfl, (Prod.mk.inj (Option.some.inj hf)), zt_go hE hP hS zt_id ht hW⟩, hS.F ht⟩) hS.2.2 dX9_neighbour_17

theorem zh_X9_keptOf : yX9_keptOf.cls = RX9 ∧ yX9_keptOf.cls ≠ "java/lang/invoke/MethodHandle" ∧ yX9_keptOf.cls ≠ "java/lang/invoke/VarHandle" ∧ (parseMethodDescriptor yX9_keptOf.desc).map (fun d => d.parameters.length) = some 2 := by decide +kernel
set_option maxHeartbeats 4000000 in
set_option maxRecDepth 100000 in
theorem m_X9_keptOf (l : Launch) (G : zt_G) {σ : zt_St} {x1 : Int32} {x2 : Int32} {r : Int32} (hf : f_X9_keptOf σ x1 x2 = some r) : zt_Mi l G yX9_keptOf wsX9_keptOf 0 0 [.ref (zt_ad G 94), .int x1, .int x2] σ r σ := by
  refine Met.ofW (cc := cX9_keptOf) (maxL := 4) (ret := (some .int)) (by decide) rfl ?_
  intro p e s m args below meth c s₁ B hml hv
  obtain ⟨rfl, hBB⟩ := hv
  have hE := zt_B.env hBB; have hK := hE.2.1; have hP := hBB.2.1
  have hx := B.exec; have hb := B.bytes; have hr := B.returns; have hts := atoms_spec (ws := wsX9_keptOf) B.pre
  have hown : s.vm.findClass RX9 = some m.cls := findClass_of_methodNamed B.named
  have hlocks := B.notSynchronized
  have hS : va_S (zt_A G) s.heap s.heap [] := va_S.rf
  have hl := lv_entry ([.ref (zt_ad G 94), .int x1, .int x2]) (n := 4) (Nat.le_of_ble_eq_true rfl)
  rw [lg_entry_eq]
  generalize (lg_sl ([.ref (zt_ad G 94), .int x1, .int x2]) ++ List.replicate (4 - (lg_sl ([.ref (zt_ad G 94), .int x1, .int x2])).length) Slot.unset).toArray = ls at hl ⊢
  have hl : lv_has ls 4 [(0, .ref (zt_ad G 94)), (1, .int x1), (2, .int x2)] := hl
  show W p l e (zt_R 0 0) s m ([.ref (zt_ad G 94), .int x1, .int x2] : List Value).toArray below meth c s.heap [] 0 0 (MQ below (zt_Ci G r σ) ([.ref (zt_ad G 94), .int x1, .int x2] : List Value).toArray s 0 0 (zt_A G)) (F0 m 0 ls [])
  have fl75 := hts (.fieldLink RX9 75 "ZoneTreeModel" "keptName" "[I") (List.mem_cons_of_mem _ (List.mem_append_left _ (List.mem_of_getElem? (i := 1) rfl)))
  have fl78 := hts (.fieldLink RX9 78 "ZoneTreeModel" "keptSort" "[I") (List.mem_cons_of_mem _ (List.mem_append_left _ (List.mem_of_getElem? (i := 2) rfl)))
  have fl238 := hts (.fieldLink RX9 238 "ZoneTreeModel" "kept" "I") (List.mem_cons_of_mem _ (List.mem_append_left _ (List.mem_of_getElem? (i := 0) rfl)))
  have inX9 : ∀ w ∈ wsX90, w ∈ wsX9_keptOf := fun w h => (List.mem_cons_of_mem _ (List.mem_append_right _ h))
  have B32 : ∀ (rc2 : Int32 → Int32 → Int32 → Option (Int32)) (hrc2 : ∀ (u1 : Int32) (u2 : Int32) (u3 : Int32) (H : Heap) (locs : List Loc) (ls : Array Slot), rc2 u1 u2 u3 = some r → va_P (zt_D G) vwCl (zt_ww G σ) H → va_S (zt_A G) s.heap H locs → lv_has ls 4 [(0, .ref (zt_ad G 94)), (1, .int u1), (2, .int u2), (3, .int u3)] → W p l e (zt_R 0 0) s m ([.ref (zt_ad G 94), .int x1, .int x2] : List Value).toArray below meth c H locs 0 0 (MQ below (zt_Ci G r σ) ([.ref (zt_ad G 94), .int x1, .int x2] : List Value).toArray s 0 0 (zt_A G)) (F0 m 2 ls [])), ∀ (u1 : Int32) (u2 : Int32) (u3 : Int32) (H : Heap) (locs : List Loc) (ls : Array Slot), f_X9_keptOf_32 σ rc2 u1 u2 u3 = some r → va_P (zt_D G) vwCl (zt_ww G σ) H → va_S (zt_A G) s.heap H locs → lv_has ls 4 [(0, .ref (zt_ad G 94)), (1, .int u1), (2, .int u2), (3, .int u3)] → W p l e (zt_R 0 0) s m ([.ref (zt_ad G 94), .int x1, .int x2] : List Value).toArray below meth c H locs 0 0 (MQ below (zt_Ci G r σ) ([.ref (zt_ad G 94), .int x1, .int x2] : List Value).toArray s 0 0 (zt_A G)) (F0 m 32 ls []) := by
    intro rc2 hrc2 u1 u2 u3 H locs ls hf hP hS hl
    unfold f_X9_keptOf_32 at hf
    refine lv_iinc (v := (u3 + 1)) (lv' := [(3, .int (u3 + 1)), (0, .ref (zt_ad G 94)), (1, .int u1), (2, .int u2)]) hx hb dX9_keptOf_32 hl (k := 3) rfl rfl (by decide) rfl (fun ls hl => ?_)
    refine lv_goto (tgt := 2) hx hb dX9_keptOf_35 (by decide) ?_
    exact hrc2 u1 u2 (u3 + 1) _ _ _ hf hP hS (lv_sub hl [1, 2, 3, 0] rfl)
  have B2 : ∀ (n : Nat), ∀ (u1 : Int32) (u2 : Int32) (u3 : Int32) (H : Heap) (locs : List Loc) (ls : Array Slot), f_X9_keptOf_2 σ n u1 u2 u3 = some r → va_P (zt_D G) vwCl (zt_ww G σ) H → va_S (zt_A G) s.heap H locs → lv_has ls 4 [(0, .ref (zt_ad G 94)), (1, .int u1), (2, .int u2), (3, .int u3)] → W p l e (zt_R 0 0) s m ([.ref (zt_ad G 94), .int x1, .int x2] : List Value).toArray below meth c H locs 0 0 (MQ below (zt_Ci G r σ) ([.ref (zt_ad G 94), .int x1, .int x2] : List Value).toArray s 0 0 (zt_A G)) (F0 m 2 ls []) := by
    intro n
    induction n with
    | zero => intro u1 u2 u3 H locs ls hf; exact nomatch hf
    | succ n hrc2 =>
      intro u1 u2 u3 H locs ls hf hP hS hl
      generalize hrcg : f_X9_keptOf_2 σ n = rc2 at hrc2
      have hf : f_X9_keptOf_2b σ rc2 u1 u2 u3 = some r := by rw [← hrcg]; exact hf
      unfold f_X9_keptOf_2b at hf
      refine lv_iload_n hx hb dX9_keptOf_2 rfl (lv_at hl 3 rfl) ?_
      refine lv_aload_n hx hb dX9_keptOf_3 rfl (lv_at hl 0 rfl) ?_
      refine va_get (D := zt_D G) (ci := 8) (v := .int (σ 94 24)) (C := RX9) (T := TX9) (N := 37) hx hb hts inX9 hown hK hP 94 (zt_a8 (rfl : zt_kd 94 = 8)) rfl 24 (by decide) fl238 (fun _ h9 => h9) rfl dX9_keptOf_4 ?_
      refine lv_icmp_ge (tgt := 38) hx hb dX9_keptOf_7 (by decide) (fun c1 => ?_) (fun c1 => ?_)
      · have hf := (if_pos c1).symm.trans hf
        refine lv_iconst (v := (-1)) hx hb dX9_keptOf_38 (by decide) ?_
        exact W.iret hx hb hr (fun t ht hW => ⟨⟨_, _, rfl, ⟨Option.some.inj hf, rfl⟩, zt_go hE hP hS zt_id ht hW⟩, hS.F ht⟩) hS.2.2 dX9_keptOf_39
      · have hf := (if_neg c1).symm.trans hf
        refine lv_aload_n hx hb dX9_keptOf_10 rfl (lv_at hl 0 rfl) ?_
        refine va_get (D := zt_D G) (ci := 8) (v := .ref (zt_ad G 114)) (C := RX9) (T := TX9) (N := 37) hx hb hts inX9 hown hK hP 94 (zt_a8 (rfl : zt_kd 94 = 8)) rfl 25 (by decide) fl75 (fun _ h9 => h9) rfl dX9_keptOf_11 ?_
        refine lv_iload_n hx hb dX9_keptOf_14 rfl (lv_at hl 3 rfl) ?_
        obtain ⟨g2, hf⟩ := zt_gd_some hf
        refine va_iald hx hb hK hP 114 0 zt_a_114 rfl (zt_gI_in g2) dX9_keptOf_15 ?_
        refine lv_iload_n hx hb dX9_keptOf_16 rfl (lv_at hl 1 rfl) ?_
        refine lv_icmp_ne (tgt := 32) hx hb dX9_keptOf_17 (by decide) (fun c3 => ?_) (fun c3 => ?_)
        · have hf := (if_neg c3).symm.trans hf
          exact B32 rc2 hrc2 u1 u2 u3 _ _ _ hf hP hS (lv_sub hl [0, 1, 2, 3] rfl)
        · have hf := (if_pos c3).symm.trans hf
          refine lv_aload_n hx hb dX9_keptOf_20 rfl (lv_at hl 0 rfl) ?_
          refine va_get (D := zt_D G) (ci := 8) (v := .ref (zt_ad G 115)) (C := RX9) (T := TX9) (N := 37) hx hb hts inX9 hown hK hP 94 (zt_a8 (rfl : zt_kd 94 = 8)) rfl 26 (by decide) fl78 (fun _ h9 => h9) rfl dX9_keptOf_21 ?_
          refine lv_iload_n hx hb dX9_keptOf_24 rfl (lv_at hl 3 rfl) ?_
          obtain ⟨g4, hf⟩ := zt_gd_some hf
          refine va_iald hx hb hK hP 115 0 zt_a_115 rfl (zt_gI_in g4) dX9_keptOf_25 ?_
          refine lv_iload_n hx hb dX9_keptOf_26 rfl (lv_at hl 2 rfl) ?_
          refine lv_icmp_ne (tgt := 32) hx hb dX9_keptOf_27 (by decide) (fun c5 => ?_) (fun c5 => ?_)
          · have hf := (if_neg c5).symm.trans hf
            exact B32 rc2 hrc2 u1 u2 u3 _ _ _ hf hP hS (lv_sub hl [0, 1, 2, 3] rfl)
          · have hf := (if_pos c5).symm.trans hf
            refine lv_iload_n hx hb dX9_keptOf_30 rfl (lv_at hl 3 rfl) ?_
            exact W.iret hx hb hr (fun t ht hW => ⟨⟨_, _, rfl, ⟨Option.some.inj hf, rfl⟩, zt_go hE hP hS zt_id ht hW⟩, hS.F ht⟩) hS.2.2 dX9_keptOf_31
  unfold f_X9_keptOf at hf
  refine lv_iconst (v := 0) hx hb dX9_keptOf_0 (by decide) ?_
  refine lv_istore_n (lv' := [(3, .int 0), (0, .ref (zt_ad G 94)), (1, .int x1), (2, .int x2)]) hx hb dX9_keptOf_1 rfl hl (by decide) rfl (fun ls hl => ?_)
  exact B2 zt_FU x1 x2 0 _ _ _ hf hP hS (lv_sub hl [1, 2, 3, 0] rfl)

theorem zh_X9_shifts : yX9_shifts.cls = RX9 ∧ yX9_shifts.cls ≠ "java/lang/invoke/MethodHandle" ∧ yX9_shifts.cls ≠ "java/lang/invoke/VarHandle" ∧ (parseMethodDescriptor yX9_shifts.desc).map (fun d => d.parameters.length) = some 1 := by decide +kernel
set_option maxHeartbeats 4000000 in
set_option maxRecDepth 100000 in
theorem m_X9_shifts (l : Launch) (G : zt_G) {σ : zt_St} {x1 : Int32} {σ1 : zt_St} (hf : f_X9_shifts σ x1 = some σ1) : zt_Mv l G yX9_shifts wsX9_shifts 0 0 [.ref (zt_ad G 94), .int x1] σ σ1 := by
  refine Met.ofW (cc := cX9_shifts) (maxL := 3) (ret := none) (by decide) rfl ?_
  intro p e s m args below meth c s₁ B hml hv
  obtain ⟨rfl, hBB⟩ := hv
  have hE := zt_B.env hBB; have hK := hE.2.1; have hP := hBB.2.1
  have hx := B.exec; have hb := B.bytes; have hr := B.returns; have hts := atoms_spec (ws := wsX9_shifts) B.pre
  have hown : s.vm.findClass RX9 = some m.cls := findClass_of_methodNamed B.named
  have hlocks := B.notSynchronized
  have hS : va_S (zt_A G) s.heap s.heap [] := va_S.rf
  have hl := lv_entry ([.ref (zt_ad G 94), .int x1]) (n := 3) (Nat.le_of_ble_eq_true rfl)
  rw [lg_entry_eq]
  generalize (lg_sl ([.ref (zt_ad G 94), .int x1]) ++ List.replicate (3 - (lg_sl ([.ref (zt_ad G 94), .int x1])).length) Slot.unset).toArray = ls at hl ⊢
  have hl : lv_has ls 3 [(0, .ref (zt_ad G 94)), (1, .int x1)] := hl
  show W p l e (zt_R 0 0) s m ([.ref (zt_ad G 94), .int x1] : List Value).toArray below meth c s.heap [] 0 0 (MQ below (zt_Cv G σ1) ([.ref (zt_ad G 94), .int x1] : List Value).toArray s 0 0 (zt_A G)) (F0 m 0 ls [])
  have fl75 := hts (.fieldLink RX9 75 "ZoneTreeModel" "keptName" "[I") (List.mem_cons_of_mem _ (List.mem_append_left _ (List.mem_of_getElem? (i := 1) rfl)))
  have fl78 := hts (.fieldLink RX9 78 "ZoneTreeModel" "keptSort" "[I") (List.mem_cons_of_mem _ (List.mem_append_left _ (List.mem_of_getElem? (i := 2) rfl)))
  have fl81 := hts (.fieldLink RX9 81 "ZoneTreeModel" "keptKind" "[I") (List.mem_cons_of_mem _ (List.mem_append_left _ (List.mem_of_getElem? (i := 3) rfl)))
  have fl84 := hts (.fieldLink RX9 84 "ZoneTreeModel" "keptNumber" "[I") (List.mem_cons_of_mem _ (List.mem_append_left _ (List.mem_of_getElem? (i := 4) rfl)))
  have fl87 := hts (.fieldLink RX9 87 "ZoneTreeModel" "keptTo" "[I") (List.mem_cons_of_mem _ (List.mem_append_left _ (List.mem_of_getElem? (i := 5) rfl)))
  have fl90 := hts (.fieldLink RX9 90 "ZoneTreeModel" "keptLife" "[I") (List.mem_cons_of_mem _ (List.mem_append_left _ (List.mem_of_getElem? (i := 6) rfl)))
  have fl93 := hts (.fieldLink RX9 93 "ZoneTreeModel" "keptAt" "[I") (List.mem_cons_of_mem _ (List.mem_append_left _ (List.mem_of_getElem? (i := 7) rfl)))
  have fl238 := hts (.fieldLink RX9 238 "ZoneTreeModel" "kept" "I") (List.mem_cons_of_mem _ (List.mem_append_left _ (List.mem_of_getElem? (i := 0) rfl)))
  have inX9 : ∀ w ∈ wsX90, w ∈ wsX9_shifts := fun w h => (List.mem_cons_of_mem _ (List.mem_append_right _ h))
  have B12 : ∀ (n : Nat), ∀ (σ : zt_St) (u2 : Int32) (H : Heap) (locs : List Loc) (ls : Array Slot), f_X9_shifts_12 n σ u2 = some σ1 → va_P (zt_D G) vwCl (zt_ww G σ) H → va_S (zt_A G) s.heap H locs → lv_has ls 3 [(0, .ref (zt_ad G 94)), (2, .int u2)] → W p l e (zt_R 0 0) s m ([.ref (zt_ad G 94), .int x1] : List Value).toArray below meth c H locs 0 0 (MQ below (zt_Cv G σ1) ([.ref (zt_ad G 94), .int x1] : List Value).toArray s 0 0 (zt_A G)) (F0 m 12 ls []) := by
    intro n
    induction n with
    | zero => intro σ u2 H locs ls hf; exact nomatch hf
    | succ n hrc12 =>
      intro σ u2 H locs ls hf hP hS hl
      generalize hrcg : f_X9_shifts_12 n = rc12 at hrc12
      have hf : f_X9_shifts_12b rc12 σ u2 = some σ1 := by rw [← hrcg]; exact hf
      unfold f_X9_shifts_12b at hf
      refine lv_iload_n hx hb dX9_shifts_12 rfl (lv_at hl 1 rfl) ?_
      refine lv_aload_n hx hb dX9_shifts_13 rfl (lv_at hl 0 rfl) ?_
      refine va_get (D := zt_D G) (ci := 8) (v := .int (σ 94 24)) (C := RX9) (T := TX9) (N := 37) hx hb hts inX9 hown hK hP 94 (zt_a8 (rfl : zt_kd 94 = 8)) rfl 24 (by decide) fl238 (fun _ h9 => h9) rfl dX9_shifts_14 ?_
      refine lv_icmp_ge (tgt := 124) hx hb dX9_shifts_17 (by decide) (fun c2 => ?_) (fun c2 => ?_)
      · have hf := (if_pos c2).symm.trans hf
        exact W.vret hx hb hr (fun t ht hW => ⟨⟨_, rfl, (Option.some.inj hf), zt_go hE hP hS zt_id ht hW⟩, hS.F ht⟩) hS.2.2 dX9_shifts_124
      · have hf := (if_neg c2).symm.trans hf
        refine lv_aload_n hx hb dX9_shifts_20 rfl (lv_at hl 0 rfl) ?_
        refine va_get (D := zt_D G) (ci := 8) (v := .ref (zt_ad G 114)) (C := RX9) (T := TX9) (N := 37) hx hb hts inX9 hown hK hP 94 (zt_a8 (rfl : zt_kd 94 = 8)) rfl 25 (by decide) fl75 (fun _ h9 => h9) rfl dX9_shifts_21 ?_
        refine lv_iload_n hx hb dX9_shifts_24 rfl (lv_at hl 1 rfl) ?_
        refine lv_aload_n hx hb dX9_shifts_25 rfl (lv_at hl 0 rfl) ?_
        refine va_get (D := zt_D G) (ci := 8) (v := .ref (zt_ad G 114)) (C := RX9) (T := TX9) (N := 37) hx hb hts inX9 hown hK hP 94 (zt_a8 (rfl : zt_kd 94 = 8)) rfl 25 (by decide) fl75 (fun _ h9 => h9) rfl dX9_shifts_26 ?_
        refine lv_iload_n hx hb dX9_shifts_29 rfl (lv_at hl 1 rfl) ?_
        refine lv_iconst (v := 1) hx hb dX9_shifts_30 (by decide) ?_
        refine lv_iadd hx hb dX9_shifts_31 ?_
        obtain ⟨g3, hf⟩ := zt_gd_some hf
        refine va_iald hx hb hK hP 114 0 zt_a_114 rfl (zt_gI_in g3) dX9_shifts_32 ?_
        obtain ⟨g4, hf⟩ := zt_gd_some hf
        obtain ⟨σ5, hσ5, hf⟩ := zt_lt_some hf
        refine va_iast hx hb hK hP (zt_apart hE.1) hS 114 0 zt_a_114 rfl (zt_gI_in g4) dX9_shifts_33 (fun H locs hP _ hS => ?_)
        rw [zt_p_114, ← hσ5] at hP
        refine lv_aload_n hx hb dX9_shifts_34 rfl (lv_at hl 0 rfl) ?_
        refine va_get (D := zt_D G) (ci := 8) (v := .ref (zt_ad G 115)) (C := RX9) (T := TX9) (N := 37) hx hb hts inX9 hown hK hP 94 (zt_a8 (rfl : zt_kd 94 = 8)) rfl 26 (by decide) fl78 (fun _ h9 => h9) rfl dX9_shifts_35 ?_
        refine lv_iload_n hx hb dX9_shifts_38 rfl (lv_at hl 1 rfl) ?_
        refine lv_aload_n hx hb dX9_shifts_39 rfl (lv_at hl 0 rfl) ?_
        refine va_get (D := zt_D G) (ci := 8) (v := .ref (zt_ad G 115)) (C := RX9) (T := TX9) (N := 37) hx hb hts inX9 hown hK hP 94 (zt_a8 (rfl : zt_kd 94 = 8)) rfl 26 (by decide) fl78 (fun _ h9 => h9) rfl dX9_shifts_40 ?_
        refine lv_iload_n hx hb dX9_shifts_43 rfl (lv_at hl 1 rfl) ?_
        refine lv_iconst (v := 1) hx hb dX9_shifts_44 (by decide) ?_
        refine lv_iadd hx hb dX9_shifts_45 ?_
        obtain ⟨g6, hf⟩ := zt_gd_some hf
        refine va_iald hx hb hK hP 115 0 zt_a_115 rfl (zt_gI_in g6) dX9_shifts_46 ?_
        obtain ⟨g7, hf⟩ := zt_gd_some hf
        obtain ⟨σ8, hσ8, hf⟩ := zt_lt_some hf
        refine va_iast hx hb hK hP (zt_apart hE.1) hS 115 0 zt_a_115 rfl (zt_gI_in g7) dX9_shifts_47 (fun H locs hP _ hS => ?_)
        rw [zt_p_115, ← hσ8] at hP
        refine lv_aload_n hx hb dX9_shifts_48 rfl (lv_at hl 0 rfl) ?_
        refine va_get (D := zt_D G) (ci := 8) (v := .ref (zt_ad G 116)) (C := RX9) (T := TX9) (N := 37) hx hb hts inX9 hown hK hP 94 (zt_a8 (rfl : zt_kd 94 = 8)) rfl 27 (by decide) fl81 (fun _ h9 => h9) rfl dX9_shifts_49 ?_
        refine lv_iload_n hx hb dX9_shifts_52 rfl (lv_at hl 1 rfl) ?_
        refine lv_aload_n hx hb dX9_shifts_53 rfl (lv_at hl 0 rfl) ?_
        refine va_get (D := zt_D G) (ci := 8) (v := .ref (zt_ad G 116)) (C := RX9) (T := TX9) (N := 37) hx hb hts inX9 hown hK hP 94 (zt_a8 (rfl : zt_kd 94 = 8)) rfl 27 (by decide) fl81 (fun _ h9 => h9) rfl dX9_shifts_54 ?_
        refine lv_iload_n hx hb dX9_shifts_57 rfl (lv_at hl 1 rfl) ?_
        refine lv_iconst (v := 1) hx hb dX9_shifts_58 (by decide) ?_
        refine lv_iadd hx hb dX9_shifts_59 ?_
        obtain ⟨g9, hf⟩ := zt_gd_some hf
        refine va_iald hx hb hK hP 116 0 zt_a_116 rfl (zt_gI_in g9) dX9_shifts_60 ?_
        obtain ⟨g10, hf⟩ := zt_gd_some hf
        obtain ⟨σ11, hσ11, hf⟩ := zt_lt_some hf
        refine va_iast hx hb hK hP (zt_apart hE.1) hS 116 0 zt_a_116 rfl (zt_gI_in g10) dX9_shifts_61 (fun H locs hP _ hS => ?_)
        rw [zt_p_116, ← hσ11] at hP
        refine lv_aload_n hx hb dX9_shifts_62 rfl (lv_at hl 0 rfl) ?_
        refine va_get (D := zt_D G) (ci := 8) (v := .ref (zt_ad G 117)) (C := RX9) (T := TX9) (N := 37) hx hb hts inX9 hown hK hP 94 (zt_a8 (rfl : zt_kd 94 = 8)) rfl 28 (by decide) fl84 (fun _ h9 => h9) rfl dX9_shifts_63 ?_
        refine lv_iload_n hx hb dX9_shifts_66 rfl (lv_at hl 1 rfl) ?_
        refine lv_aload_n hx hb dX9_shifts_67 rfl (lv_at hl 0 rfl) ?_
        refine va_get (D := zt_D G) (ci := 8) (v := .ref (zt_ad G 117)) (C := RX9) (T := TX9) (N := 37) hx hb hts inX9 hown hK hP 94 (zt_a8 (rfl : zt_kd 94 = 8)) rfl 28 (by decide) fl84 (fun _ h9 => h9) rfl dX9_shifts_68 ?_
        refine lv_iload_n hx hb dX9_shifts_71 rfl (lv_at hl 1 rfl) ?_
        refine lv_iconst (v := 1) hx hb dX9_shifts_72 (by decide) ?_
        refine lv_iadd hx hb dX9_shifts_73 ?_
        obtain ⟨g12, hf⟩ := zt_gd_some hf
        refine va_iald hx hb hK hP 117 0 zt_a_117 rfl (zt_gI_in g12) dX9_shifts_74 ?_
        obtain ⟨g13, hf⟩ := zt_gd_some hf
        obtain ⟨σ14, hσ14, hf⟩ := zt_lt_some hf
        refine va_iast hx hb hK hP (zt_apart hE.1) hS 117 0 zt_a_117 rfl (zt_gI_in g13) dX9_shifts_75 (fun H locs hP _ hS => ?_)
        rw [zt_p_117, ← hσ14] at hP
        refine lv_aload_n hx hb dX9_shifts_76 rfl (lv_at hl 0 rfl) ?_
        refine va_get (D := zt_D G) (ci := 8) (v := .ref (zt_ad G 118)) (C := RX9) (T := TX9) (N := 37) hx hb hts inX9 hown hK hP 94 (zt_a8 (rfl : zt_kd 94 = 8)) rfl 29 (by decide) fl87 (fun _ h9 => h9) rfl dX9_shifts_77 ?_
        refine lv_iload_n hx hb dX9_shifts_80 rfl (lv_at hl 1 rfl) ?_
        refine lv_aload_n hx hb dX9_shifts_81 rfl (lv_at hl 0 rfl) ?_
        refine va_get (D := zt_D G) (ci := 8) (v := .ref (zt_ad G 118)) (C := RX9) (T := TX9) (N := 37) hx hb hts inX9 hown hK hP 94 (zt_a8 (rfl : zt_kd 94 = 8)) rfl 29 (by decide) fl87 (fun _ h9 => h9) rfl dX9_shifts_82 ?_
        refine lv_iload_n hx hb dX9_shifts_85 rfl (lv_at hl 1 rfl) ?_
        refine lv_iconst (v := 1) hx hb dX9_shifts_86 (by decide) ?_
        refine lv_iadd hx hb dX9_shifts_87 ?_
        obtain ⟨g15, hf⟩ := zt_gd_some hf
        refine va_iald hx hb hK hP 118 0 zt_a_118 rfl (zt_gI_in g15) dX9_shifts_88 ?_
        obtain ⟨g16, hf⟩ := zt_gd_some hf
        obtain ⟨σ17, hσ17, hf⟩ := zt_lt_some hf
        refine va_iast hx hb hK hP (zt_apart hE.1) hS 118 0 zt_a_118 rfl (zt_gI_in g16) dX9_shifts_89 (fun H locs hP _ hS => ?_)
        rw [zt_p_118, ← hσ17] at hP
        refine lv_aload_n hx hb dX9_shifts_90 rfl (lv_at hl 0 rfl) ?_
        refine va_get (D := zt_D G) (ci := 8) (v := .ref (zt_ad G 119)) (C := RX9) (T := TX9) (N := 37) hx hb hts inX9 hown hK hP 94 (zt_a8 (rfl : zt_kd 94 = 8)) rfl 30 (by decide) fl90 (fun _ h9 => h9) rfl dX9_shifts_91 ?_
        refine lv_iload_n hx hb dX9_shifts_94 rfl (lv_at hl 1 rfl) ?_
        refine lv_aload_n hx hb dX9_shifts_95 rfl (lv_at hl 0 rfl) ?_
        refine va_get (D := zt_D G) (ci := 8) (v := .ref (zt_ad G 119)) (C := RX9) (T := TX9) (N := 37) hx hb hts inX9 hown hK hP 94 (zt_a8 (rfl : zt_kd 94 = 8)) rfl 30 (by decide) fl90 (fun _ h9 => h9) rfl dX9_shifts_96 ?_
        refine lv_iload_n hx hb dX9_shifts_99 rfl (lv_at hl 1 rfl) ?_
        refine lv_iconst (v := 1) hx hb dX9_shifts_100 (by decide) ?_
        refine lv_iadd hx hb dX9_shifts_101 ?_
        obtain ⟨g18, hf⟩ := zt_gd_some hf
        refine va_iald hx hb hK hP 119 0 zt_a_119 rfl (zt_gI_in g18) dX9_shifts_102 ?_
        obtain ⟨g19, hf⟩ := zt_gd_some hf
        obtain ⟨σ20, hσ20, hf⟩ := zt_lt_some hf
        refine va_iast hx hb hK hP (zt_apart hE.1) hS 119 0 zt_a_119 rfl (zt_gI_in g19) dX9_shifts_103 (fun H locs hP _ hS => ?_)
        rw [zt_p_119, ← hσ20] at hP
        refine lv_aload_n hx hb dX9_shifts_104 rfl (lv_at hl 0 rfl) ?_
        refine va_get (D := zt_D G) (ci := 8) (v := .ref (zt_ad G 120)) (C := RX9) (T := TX9) (N := 37) hx hb hts inX9 hown hK hP 94 (zt_a8 (rfl : zt_kd 94 = 8)) rfl 31 (by decide) fl93 (fun _ h9 => h9) rfl dX9_shifts_105 ?_
        refine lv_iload_n hx hb dX9_shifts_108 rfl (lv_at hl 1 rfl) ?_
        refine lv_aload_n hx hb dX9_shifts_109 rfl (lv_at hl 0 rfl) ?_
        refine va_get (D := zt_D G) (ci := 8) (v := .ref (zt_ad G 120)) (C := RX9) (T := TX9) (N := 37) hx hb hts inX9 hown hK hP 94 (zt_a8 (rfl : zt_kd 94 = 8)) rfl 31 (by decide) fl93 (fun _ h9 => h9) rfl dX9_shifts_110 ?_
        refine lv_iload_n hx hb dX9_shifts_113 rfl (lv_at hl 1 rfl) ?_
        refine lv_iconst (v := 1) hx hb dX9_shifts_114 (by decide) ?_
        refine lv_iadd hx hb dX9_shifts_115 ?_
        obtain ⟨g21, hf⟩ := zt_gd_some hf
        refine va_iald hx hb hK hP 120 0 zt_a_120 rfl (zt_gI_in g21) dX9_shifts_116 ?_
        obtain ⟨g22, hf⟩ := zt_gd_some hf
        obtain ⟨σ23, hσ23, hf⟩ := zt_lt_some hf
        refine va_iast hx hb hK hP (zt_apart hE.1) hS 120 0 zt_a_120 rfl (zt_gI_in g22) dX9_shifts_117 (fun H locs hP _ hS => ?_)
        rw [zt_p_120, ← hσ23] at hP
        refine lv_iinc (v := (u2 + 1)) (lv' := [(2, .int (u2 + 1)), (0, .ref (zt_ad G 94))]) hx hb dX9_shifts_118 hl (k := 1) rfl rfl (by decide) rfl (fun ls hl => ?_)
        refine lv_goto (tgt := 12) hx hb dX9_shifts_121 (by decide) ?_
        exact hrc12 σ23 (u2 + 1) _ _ _ hf hP hS (lv_sub hl [1, 0] rfl)
  unfold f_X9_shifts at hf
  refine lv_aload_n hx hb dX9_shifts_0 rfl (lv_at hl 0 rfl) ?_
  refine lv_dup hx hb dX9_shifts_1 rfl ?_
  refine va_get (D := zt_D G) (ci := 8) (v := .int (σ 94 24)) (C := RX9) (T := TX9) (N := 37) hx hb hts inX9 hown hK hP 94 (zt_a8 (rfl : zt_kd 94 = 8)) rfl 24 (by decide) fl238 (fun _ h9 => h9) rfl dX9_shifts_2 ?_
  refine lv_iconst (v := 1) hx hb dX9_shifts_5 (by decide) ?_
  refine lv_isub hx hb dX9_shifts_6 ?_
  obtain ⟨σ1, hσ1, hf⟩ := zt_lt_some hf
  refine va_put (D := zt_D G) (ci := 8) (v := .int ((σ 94 24) - 1)) (ty := .int) (C := RX9) (T := TX9) (N := 37) hx hb hts inX9 tyX9 tyX9_ok nmX9 hown hK hP (zt_apart hE.1) hS 94 (zt_a8 (rfl : zt_kd 94 = 8)) rfl 24 (by decide) fl238 (fun _ h9 => h9) rfl (tyX9_ok 24 (by decide)) rfl rfl (Nat.le_of_ble_eq_true rfl) dX9_shifts_7 (fun H locs hP _ hS => ?_)
  rw [zt_p8_24 (rfl : zt_kd 94 = 8), ← hσ1] at hP
  refine lv_iload_n hx hb dX9_shifts_10 rfl (lv_at hl 1 rfl) ?_
  refine lv_istore_n (lv' := [(2, .int x1), (0, .ref (zt_ad G 94)), (1, .int x1)]) hx hb dX9_shifts_11 rfl hl (by decide) rfl (fun ls hl => ?_)
  exact B12 zt_FU σ1 x1 _ _ _ hf hP hS (lv_sub hl [1, 0] rfl)

theorem zh_X9_keeps : yX9_keeps.cls = RX9 ∧ yX9_keeps.cls ≠ "java/lang/invoke/MethodHandle" ∧ yX9_keeps.cls ≠ "java/lang/invoke/VarHandle" ∧ (parseMethodDescriptor yX9_keeps.desc).map (fun d => d.parameters.length) = some 3 := by decide +kernel
set_option maxHeartbeats 4000000 in
set_option maxRecDepth 100000 in
theorem m_X9_keeps (l : Launch) (G : zt_G) {σ : zt_St} {x1 : Int32} {x2 : Int32} {x3 : Int32} {σ1 : zt_St} (hf : f_X9_keeps σ x1 x2 x3 = some σ1) : zt_Mv l G yX9_keeps wsX9_keeps 1 23 [.ref (zt_ad G 94), .int x1, .int x2, .int x3] σ σ1 := by
  refine Met.ofW (cc := cX9_keeps) (maxL := 5) (ret := none) (by decide) rfl ?_
  intro p e s m args below meth c s₁ B hml hv
  obtain ⟨rfl, hBB⟩ := hv
  have hE := zt_B.env hBB; have hK := hE.2.1; have hP := hBB.2.1
  have hx := B.exec; have hb := B.bytes; have hr := B.returns; have hts := atoms_spec (ws := wsX9_keeps) B.pre
  have hown : s.vm.findClass RX9 = some m.cls := findClass_of_methodNamed B.named
  have hlocks := B.notSynchronized
  have hS : va_S (zt_A G) s.heap s.heap [] := va_S.rf
  have hl := lv_entry ([.ref (zt_ad G 94), .int x1, .int x2, .int x3]) (n := 5) (Nat.le_of_ble_eq_true rfl)
  rw [lg_entry_eq]
  generalize (lg_sl ([.ref (zt_ad G 94), .int x1, .int x2, .int x3]) ++ List.replicate (5 - (lg_sl ([.ref (zt_ad G 94), .int x1, .int x2, .int x3])).length) Slot.unset).toArray = ls at hl ⊢
  have hl : lv_has ls 5 [(0, .ref (zt_ad G 94)), (1, .int x1), (2, .int x2), (3, .int x3)] := hl
  show W p l e (zt_R 1 23) s m ([.ref (zt_ad G 94), .int x1, .int x2, .int x3] : List Value).toArray below meth c s.heap [] 0 0 (MQ below (zt_Cv G σ1) ([.ref (zt_ad G 94), .int x1, .int x2, .int x3] : List Value).toArray s 0 0 (zt_A G)) (F0 m 0 ls [])
  have fl75 := hts (.fieldLink RX9 75 "ZoneTreeModel" "keptName" "[I") (List.mem_cons_of_mem _ (List.mem_append_left _ (List.mem_of_getElem? (i := 0) rfl)))
  have fl78 := hts (.fieldLink RX9 78 "ZoneTreeModel" "keptSort" "[I") (List.mem_cons_of_mem _ (List.mem_append_left _ (List.mem_of_getElem? (i := 2) rfl)))
  have fl81 := hts (.fieldLink RX9 81 "ZoneTreeModel" "keptKind" "[I") (List.mem_cons_of_mem _ (List.mem_append_left _ (List.mem_of_getElem? (i := 3) rfl)))
  have fl84 := hts (.fieldLink RX9 84 "ZoneTreeModel" "keptNumber" "[I") (List.mem_cons_of_mem _ (List.mem_append_left _ (List.mem_of_getElem? (i := 4) rfl)))
  have fl87 := hts (.fieldLink RX9 87 "ZoneTreeModel" "keptTo" "[I") (List.mem_cons_of_mem _ (List.mem_append_left _ (List.mem_of_getElem? (i := 6) rfl)))
  have fl90 := hts (.fieldLink RX9 90 "ZoneTreeModel" "keptLife" "[I") (List.mem_cons_of_mem _ (List.mem_append_left _ (List.mem_of_getElem? (i := 8) rfl)))
  have fl93 := hts (.fieldLink RX9 93 "ZoneTreeModel" "keptAt" "[I") (List.mem_cons_of_mem _ (List.mem_append_left _ (List.mem_of_getElem? (i := 10) rfl)))
  have fl190 := hts (.fieldLink RX9 190 "ZoneTreeModel" "ends" "I") (List.mem_cons_of_mem _ (List.mem_append_left _ (List.mem_of_getElem? (i := 7) rfl)))
  have fl193 := hts (.fieldLink RX9 193 "ZoneTreeModel" "its" "I") (List.mem_cons_of_mem _ (List.mem_append_left _ (List.mem_of_getElem? (i := 5) rfl)))
  have fl199 := hts (.fieldLink RX9 199 "ZoneTreeModel" "lasts" "I") (List.mem_cons_of_mem _ (List.mem_append_left _ (List.mem_of_getElem? (i := 9) rfl)))
  have fl238 := hts (.fieldLink RX9 238 "ZoneTreeModel" "kept" "I") (List.mem_cons_of_mem _ (List.mem_append_left _ (List.mem_of_getElem? (i := 1) rfl)))
  have fl248 := hts (.fieldLink RX9 248 "ZoneTreeModel" "now" "I") (List.mem_cons_of_mem _ (List.mem_append_left _ (List.mem_of_getElem? (i := 11) rfl)))
  have inX9 : ∀ w ∈ wsX90, w ∈ wsX9_keeps := fun w h => (List.mem_cons_of_mem _ (List.mem_append_right _ h))
  have B70 : ∀ (σ : zt_St) (y0 : Int32) (y1 : Int32) (H : Heap) (locs : List Loc) (ls : Array Slot), f_X9_keeps_70 σ y0 y1 = some σ1 → va_P (zt_D G) vwCl (zt_ww G σ) H → va_S (zt_A G) s.heap H locs → lv_has ls 5 [(0, .ref (zt_ad G 94))] → W p l e (zt_R 1 23) s m ([.ref (zt_ad G 94), .int x1, .int x2, .int x3] : List Value).toArray below meth c H locs 0 0 (MQ below (zt_Cv G σ1) ([.ref (zt_ad G 94), .int x1, .int x2, .int x3] : List Value).toArray s 0 0 (zt_A G)) (F0 m 70 ls [.int y0, .int y1, .ref (zt_ad G 117)]) := by
    intro σ y0 y1 H locs ls hf hP hS hl
    unfold f_X9_keeps_70 at hf
    obtain ⟨g13, hf⟩ := zt_gd_some hf
    obtain ⟨σ14, hσ14, hf⟩ := zt_lt_some hf
    refine va_iast hx hb hK hP (zt_apart hE.1) hS 117 0 zt_a_117 rfl (zt_gI_in g13) dX9_keeps_70 (fun H locs hP _ hS => ?_)
    rw [zt_p_117, ← hσ14] at hP
    refine lv_aload_n hx hb dX9_keeps_71 rfl (lv_at hl 0 rfl) ?_
    refine va_get (D := zt_D G) (ci := 8) (v := .ref (zt_ad G 118)) (C := RX9) (T := TX9) (N := 37) hx hb hts inX9 hown hK hP 94 (zt_a8 (rfl : zt_kd 94 = 8)) rfl 29 (by decide) fl87 (fun _ h9 => h9) rfl dX9_keeps_72 ?_
    refine lv_aload_n hx hb dX9_keeps_75 rfl (lv_at hl 0 rfl) ?_
    refine va_get (D := zt_D G) (ci := 8) (v := .int (σ14 94 24)) (C := RX9) (T := TX9) (N := 37) hx hb hts inX9 hown hK hP 94 (zt_a8 (rfl : zt_kd 94 = 8)) rfl 24 (by decide) fl238 (fun _ h9 => h9) rfl dX9_keeps_76 ?_
    refine lv_aload_n hx hb dX9_keeps_79 rfl (lv_at hl 0 rfl) ?_
    refine va_get (D := zt_D G) (ci := 8) (v := .int (σ14 94 33)) (C := RX9) (T := TX9) (N := 37) hx hb hts inX9 hown hK hP 94 (zt_a8 (rfl : zt_kd 94 = 8)) rfl 33 (by decide) fl190 (fun _ h9 => h9) rfl dX9_keeps_80 ?_
    obtain ⟨g15, hf⟩ := zt_gd_some hf
    obtain ⟨σ16, hσ16, hf⟩ := zt_lt_some hf
    refine va_iast hx hb hK hP (zt_apart hE.1) hS 118 0 zt_a_118 rfl (zt_gI_in g15) dX9_keeps_83 (fun H locs hP _ hS => ?_)
    rw [zt_p_118, ← hσ16] at hP
    refine lv_aload_n hx hb dX9_keeps_84 rfl (lv_at hl 0 rfl) ?_
    refine va_get (D := zt_D G) (ci := 8) (v := .ref (zt_ad G 119)) (C := RX9) (T := TX9) (N := 37) hx hb hts inX9 hown hK hP 94 (zt_a8 (rfl : zt_kd 94 = 8)) rfl 30 (by decide) fl90 (fun _ h9 => h9) rfl dX9_keeps_85 ?_
    refine lv_aload_n hx hb dX9_keeps_88 rfl (lv_at hl 0 rfl) ?_
    refine va_get (D := zt_D G) (ci := 8) (v := .int (σ16 94 24)) (C := RX9) (T := TX9) (N := 37) hx hb hts inX9 hown hK hP 94 (zt_a8 (rfl : zt_kd 94 = 8)) rfl 24 (by decide) fl238 (fun _ h9 => h9) rfl dX9_keeps_89 ?_
    refine lv_aload_n hx hb dX9_keeps_92 rfl (lv_at hl 0 rfl) ?_
    refine va_get (D := zt_D G) (ci := 8) (v := .int (σ16 94 34)) (C := RX9) (T := TX9) (N := 37) hx hb hts inX9 hown hK hP 94 (zt_a8 (rfl : zt_kd 94 = 8)) rfl 34 (by decide) fl199 (fun _ h9 => h9) rfl dX9_keeps_93 ?_
    obtain ⟨g17, hf⟩ := zt_gd_some hf
    obtain ⟨σ18, hσ18, hf⟩ := zt_lt_some hf
    refine va_iast hx hb hK hP (zt_apart hE.1) hS 119 0 zt_a_119 rfl (zt_gI_in g17) dX9_keeps_96 (fun H locs hP _ hS => ?_)
    rw [zt_p_119, ← hσ18] at hP
    refine lv_aload_n hx hb dX9_keeps_97 rfl (lv_at hl 0 rfl) ?_
    refine va_get (D := zt_D G) (ci := 8) (v := .ref (zt_ad G 120)) (C := RX9) (T := TX9) (N := 37) hx hb hts inX9 hown hK hP 94 (zt_a8 (rfl : zt_kd 94 = 8)) rfl 31 (by decide) fl93 (fun _ h9 => h9) rfl dX9_keeps_98 ?_
    refine lv_aload_n hx hb dX9_keeps_101 rfl (lv_at hl 0 rfl) ?_
    refine va_get (D := zt_D G) (ci := 8) (v := .int (σ18 94 24)) (C := RX9) (T := TX9) (N := 37) hx hb hts inX9 hown hK hP 94 (zt_a8 (rfl : zt_kd 94 = 8)) rfl 24 (by decide) fl238 (fun _ h9 => h9) rfl dX9_keeps_102 ?_
    refine lv_aload_n hx hb dX9_keeps_105 rfl (lv_at hl 0 rfl) ?_
    refine va_get (D := zt_D G) (ci := 8) (v := .int (σ18 94 1)) (C := RX9) (T := TX9) (N := 37) hx hb hts inX9 hown hK hP 94 (zt_a8 (rfl : zt_kd 94 = 8)) rfl 1 (by decide) fl248 (fun _ h9 => h9) rfl dX9_keeps_106 ?_
    obtain ⟨g19, hf⟩ := zt_gd_some hf
    obtain ⟨σ20, hσ20, hf⟩ := zt_lt_some hf
    refine va_iast hx hb hK hP (zt_apart hE.1) hS 120 0 zt_a_120 rfl (zt_gI_in g19) dX9_keeps_109 (fun H locs hP _ hS => ?_)
    rw [zt_p_120, ← hσ20] at hP
    refine lv_aload_n hx hb dX9_keeps_110 rfl (lv_at hl 0 rfl) ?_
    refine lv_dup hx hb dX9_keeps_111 rfl ?_
    refine va_get (D := zt_D G) (ci := 8) (v := .int (σ20 94 24)) (C := RX9) (T := TX9) (N := 37) hx hb hts inX9 hown hK hP 94 (zt_a8 (rfl : zt_kd 94 = 8)) rfl 24 (by decide) fl238 (fun _ h9 => h9) rfl dX9_keeps_112 ?_
    refine lv_iconst (v := 1) hx hb dX9_keeps_115 (by decide) ?_
    refine lv_iadd hx hb dX9_keeps_116 ?_
    obtain ⟨σ21, hσ21, hf⟩ := zt_lt_some hf
    refine va_put (D := zt_D G) (ci := 8) (v := .int ((σ20 94 24) + 1)) (ty := .int) (C := RX9) (T := TX9) (N := 37) hx hb hts inX9 tyX9 tyX9_ok nmX9 hown hK hP (zt_apart hE.1) hS 94 (zt_a8 (rfl : zt_kd 94 = 8)) rfl 24 (by decide) fl238 (fun _ h9 => h9) rfl (tyX9_ok 24 (by decide)) rfl rfl (Nat.le_of_ble_eq_true rfl) dX9_keeps_117 (fun H locs hP _ hS => ?_)
    rw [zt_p8_24 (rfl : zt_kd 94 = 8), ← hσ21] at hP
    refine lv_aload_n hx hb dX9_keeps_120 rfl (lv_at hl 0 rfl) ?_
    refine va_get (D := zt_D G) (ci := 8) (v := .int (σ21 94 24)) (C := RX9) (T := TX9) (N := 37) hx hb hts inX9 hown hK hP 94 (zt_a8 (rfl : zt_kd 94 = 8)) rfl 24 (by decide) fl238 (fun _ h9 => h9) rfl dX9_keeps_121 ?_
    refine lv_bipush (v := 40) hx hb dX9_keeps_124 (by decide +kernel) ?_
    refine lv_icmp_le (tgt := 134) hx hb dX9_keeps_126 (by decide) (fun c22 => ?_) (fun c22 => ?_)
    · have hf := (if_pos c22).symm.trans hf
      exact W.vret hx hb hr (fun t ht hW => ⟨⟨_, rfl, (Option.some.inj hf), zt_go hE hP hS zt_id ht hW⟩, hS.F ht⟩) hS.2.2 dX9_keeps_134
    · have hf := (if_neg c22).symm.trans hf
      refine lv_aload_n hx hb dX9_keeps_129 rfl (lv_at hl 0 rfl) ?_
      refine lv_iconst (v := 0) hx hb dX9_keeps_130 (by decide) ?_
      obtain ⟨σ24, hvv23, hf⟩ := zt_bd_some hf
      refine va_callv (va_runV (As := [.int 0]) (rest := []) ⟨hx, hb, hml, hown, hts⟩ (m_X9_shifts l G (σ := σ21) hvv23) (cwV 1 hts gX9_keeps_X9_shifts rfl rfl rfl zh_X9_shifts ⟨Nat.le_of_ble_eq_true rfl, Nat.le_of_ble_eq_true rfl⟩) ⟨zt_blind, va_recv hK hP (ci := 8) (q0 := 94) rfl (zt_a8 (rfl : zt_kd 94 = 8)), fun U hU hW => ⟨rfl, zt_go hE hP hS zt_id hU hW⟩⟩ rfl rfl hl.1 rfl (lv_room (Nat.le_of_ble_eq_true rfl)) dX9_keeps_131 ⟨Nat.zero_le _, Nat.zero_le _⟩) hS (fun _ _ h => h) (fun _ h => h) (fun u t H locs ht hvm hw hB _ _ hS => ?_)
      have hB : zt_B G u t := hB; rw [hw] at hB; have hP := zt_B.P hB ht
      exact W.vret hx hb hr (fun t ht hW => ⟨⟨_, rfl, (Option.some.inj hf), zt_go hE hP hS zt_id ht hW⟩, hS.F ht⟩) hS.2.2 dX9_keeps_134
  have B20 : ∀ (σ : zt_St) (u1 : Int32) (u2 : Int32) (u3 : Int32) (H : Heap) (locs : List Loc) (ls : Array Slot), f_X9_keeps_20 σ u1 u2 u3 = some σ1 → va_P (zt_D G) vwCl (zt_ww G σ) H → va_S (zt_A G) s.heap H locs → lv_has ls 5 [(0, .ref (zt_ad G 94)), (1, .int u1), (2, .int u2), (3, .int u3)] → W p l e (zt_R 1 23) s m ([.ref (zt_ad G 94), .int x1, .int x2, .int x3] : List Value).toArray below meth c H locs 0 0 (MQ below (zt_Cv G σ1) ([.ref (zt_ad G 94), .int x1, .int x2, .int x3] : List Value).toArray s 0 0 (zt_A G)) (F0 m 20 ls []) := by
    intro σ u1 u2 u3 H locs ls hf hP hS hl
    unfold f_X9_keeps_20 at hf
    refine lv_aload_n hx hb dX9_keeps_20 rfl (lv_at hl 0 rfl) ?_
    refine va_get (D := zt_D G) (ci := 8) (v := .ref (zt_ad G 114)) (C := RX9) (T := TX9) (N := 37) hx hb hts inX9 hown hK hP 94 (zt_a8 (rfl : zt_kd 94 = 8)) rfl 25 (by decide) fl75 (fun _ h9 => h9) rfl dX9_keeps_21 ?_
    refine lv_aload_n hx hb dX9_keeps_24 rfl (lv_at hl 0 rfl) ?_
    refine va_get (D := zt_D G) (ci := 8) (v := .int (σ 94 24)) (C := RX9) (T := TX9) (N := 37) hx hb hts inX9 hown hK hP 94 (zt_a8 (rfl : zt_kd 94 = 8)) rfl 24 (by decide) fl238 (fun _ h9 => h9) rfl dX9_keeps_25 ?_
    refine lv_iload_n hx hb dX9_keeps_28 rfl (lv_at hl 1 rfl) ?_
    obtain ⟨g6, hf⟩ := zt_gd_some hf
    obtain ⟨σ7, hσ7, hf⟩ := zt_lt_some hf
    refine va_iast hx hb hK hP (zt_apart hE.1) hS 114 0 zt_a_114 rfl (zt_gI_in g6) dX9_keeps_29 (fun H locs hP _ hS => ?_)
    rw [zt_p_114, ← hσ7] at hP
    refine lv_aload_n hx hb dX9_keeps_30 rfl (lv_at hl 0 rfl) ?_
    refine va_get (D := zt_D G) (ci := 8) (v := .ref (zt_ad G 115)) (C := RX9) (T := TX9) (N := 37) hx hb hts inX9 hown hK hP 94 (zt_a8 (rfl : zt_kd 94 = 8)) rfl 26 (by decide) fl78 (fun _ h9 => h9) rfl dX9_keeps_31 ?_
    refine lv_aload_n hx hb dX9_keeps_34 rfl (lv_at hl 0 rfl) ?_
    refine va_get (D := zt_D G) (ci := 8) (v := .int (σ7 94 24)) (C := RX9) (T := TX9) (N := 37) hx hb hts inX9 hown hK hP 94 (zt_a8 (rfl : zt_kd 94 = 8)) rfl 24 (by decide) fl238 (fun _ h9 => h9) rfl dX9_keeps_35 ?_
    refine lv_iload_n hx hb dX9_keeps_38 rfl (lv_at hl 2 rfl) ?_
    obtain ⟨g8, hf⟩ := zt_gd_some hf
    obtain ⟨σ9, hσ9, hf⟩ := zt_lt_some hf
    refine va_iast hx hb hK hP (zt_apart hE.1) hS 115 0 zt_a_115 rfl (zt_gI_in g8) dX9_keeps_39 (fun H locs hP _ hS => ?_)
    rw [zt_p_115, ← hσ9] at hP
    refine lv_aload_n hx hb dX9_keeps_40 rfl (lv_at hl 0 rfl) ?_
    refine va_get (D := zt_D G) (ci := 8) (v := .ref (zt_ad G 116)) (C := RX9) (T := TX9) (N := 37) hx hb hts inX9 hown hK hP 94 (zt_a8 (rfl : zt_kd 94 = 8)) rfl 27 (by decide) fl81 (fun _ h9 => h9) rfl dX9_keeps_41 ?_
    refine lv_aload_n hx hb dX9_keeps_44 rfl (lv_at hl 0 rfl) ?_
    refine va_get (D := zt_D G) (ci := 8) (v := .int (σ9 94 24)) (C := RX9) (T := TX9) (N := 37) hx hb hts inX9 hown hK hP 94 (zt_a8 (rfl : zt_kd 94 = 8)) rfl 24 (by decide) fl238 (fun _ h9 => h9) rfl dX9_keeps_45 ?_
    refine lv_iload_n hx hb dX9_keeps_48 rfl (lv_at hl 3 rfl) ?_
    obtain ⟨g10, hf⟩ := zt_gd_some hf
    obtain ⟨σ11, hσ11, hf⟩ := zt_lt_some hf
    refine va_iast hx hb hK hP (zt_apart hE.1) hS 116 0 zt_a_116 rfl (zt_gI_in g10) dX9_keeps_49 (fun H locs hP _ hS => ?_)
    rw [zt_p_116, ← hσ11] at hP
    refine lv_aload_n hx hb dX9_keeps_50 rfl (lv_at hl 0 rfl) ?_
    refine va_get (D := zt_D G) (ci := 8) (v := .ref (zt_ad G 117)) (C := RX9) (T := TX9) (N := 37) hx hb hts inX9 hown hK hP 94 (zt_a8 (rfl : zt_kd 94 = 8)) rfl 28 (by decide) fl84 (fun _ h9 => h9) rfl dX9_keeps_51 ?_
    refine lv_aload_n hx hb dX9_keeps_54 rfl (lv_at hl 0 rfl) ?_
    refine va_get (D := zt_D G) (ci := 8) (v := .int (σ11 94 24)) (C := RX9) (T := TX9) (N := 37) hx hb hts inX9 hown hK hP 94 (zt_a8 (rfl : zt_kd 94 = 8)) rfl 24 (by decide) fl238 (fun _ h9 => h9) rfl dX9_keeps_55 ?_
    refine lv_iload_n hx hb dX9_keeps_58 rfl (lv_at hl 3 rfl) ?_
    refine lv_if_ne (tgt := 69) hx hb dX9_keeps_59 (by decide) (fun c12 => ?_) (fun c12 => ?_)
    · have hf := (if_neg c12).symm.trans hf
      refine lv_iconst (v := (-1)) hx hb dX9_keeps_69 (by decide) ?_
      exact B70 σ11 (-1) (σ11 94 24) _ _ _ hf hP hS (lv_sub hl [0] rfl)
    · have hf := (if_pos c12).symm.trans hf
      refine lv_aload_n hx hb dX9_keeps_62 rfl (lv_at hl 0 rfl) ?_
      refine va_get (D := zt_D G) (ci := 8) (v := .int (σ11 94 32)) (C := RX9) (T := TX9) (N := 37) hx hb hts inX9 hown hK hP 94 (zt_a8 (rfl : zt_kd 94 = 8)) rfl 32 (by decide) fl193 (fun _ h9 => h9) rfl dX9_keeps_63 ?_
      refine lv_goto (tgt := 70) hx hb dX9_keeps_66 (by decide) ?_
      exact B70 σ11 (σ11 94 32) (σ11 94 24) _ _ _ hf hP hS (lv_sub hl [0] rfl)
  unfold f_X9_keeps at hf
  refine lv_aload_n hx hb dX9_keeps_0 rfl (lv_at hl 0 rfl) ?_
  refine lv_iload_n hx hb dX9_keeps_1 rfl (lv_at hl 1 rfl) ?_
  refine lv_iload_n hx hb dX9_keeps_2 rfl (lv_at hl 2 rfl) ?_
  obtain ⟨v1, hvv1, hf⟩ := zt_bd_some hf
  refine va_calli (va_runV (As := [.int x1, .int x2]) (rest := []) ⟨hx, hb, hml, hown, hts⟩ (m_X9_keptOf l G (σ := σ) hvv1) (cwV 2 hts gX9_keeps_X9_keptOf rfl rfl rfl zh_X9_keptOf ⟨Nat.le_of_ble_eq_true rfl, Nat.le_of_ble_eq_true rfl⟩) ⟨zt_blind, va_recv hK hP (ci := 8) (q0 := 94) rfl (zt_a8 (rfl : zt_kd 94 = 8)), fun U hU hW => ⟨rfl, zt_go hE hP hS zt_id hU hW⟩⟩ rfl rfl hl.1 rfl (lv_room (Nat.le_of_ble_eq_true rfl)) dX9_keeps_3 ⟨Nat.zero_le _, Nat.zero_le _⟩) hS (fun _ _ h => h) (fun _ h => h) (fun r u t H locs ht hvm hw hB _ _ hS => ?_)
  rw [hw.1]; have hB : zt_B G u t := hB; rw [hw.2] at hB; have hP := zt_B.P hB ht
  refine lv_istore (lv' := [(4, .int v1), (0, .ref (zt_ad G 94)), (1, .int x1), (2, .int x2), (3, .int x3)]) hx hb dX9_keeps_6 hl (by decide) rfl (fun ls hl => ?_)
  refine lv_iload hx hb dX9_keeps_8 (lv_at hl 0 rfl) ?_
  refine lv_iconst (v := (-1)) hx hb dX9_keeps_10 (by decide) ?_
  refine lv_icmp_eq (tgt := 20) hx hb dX9_keeps_11 (by decide) (fun c3 => ?_) (fun c3 => ?_)
  · have hf := (if_pos c3).symm.trans hf
    exact B20 σ x1 x2 x3 _ _ _ hf hP hS (lv_sub hl [1, 2, 3, 4] rfl)
  · have hf := (if_neg c3).symm.trans hf
    refine lv_aload_n hx hb dX9_keeps_14 rfl (lv_at hl 1 rfl) ?_
    refine lv_iload hx hb dX9_keeps_15 (lv_at hl 0 rfl) ?_
    obtain ⟨σ5, hvv4, hf⟩ := zt_bd_some hf
    refine va_callv (va_runV (As := [.int v1]) (rest := []) ⟨hx, hb, hml, hown, hts⟩ (m_X9_shifts l G (σ := σ) hvv4) (cwV 1 hts gX9_keeps_X9_shifts rfl rfl rfl zh_X9_shifts ⟨Nat.le_of_ble_eq_true rfl, Nat.le_of_ble_eq_true rfl⟩) ⟨zt_blind, va_recv hK hP (ci := 8) (q0 := 94) rfl (zt_a8 (rfl : zt_kd 94 = 8)), fun U hU hW => ⟨rfl, zt_go hE hP hS zt_id hU hW⟩⟩ rfl rfl hl.1 rfl (lv_room (Nat.le_of_ble_eq_true rfl)) dX9_keeps_17 ⟨Nat.zero_le _, Nat.zero_le _⟩) hS (fun _ _ h => h) (fun _ h => h) (fun u t H locs ht hvm hw hB _ _ hS => ?_)
    have hB : zt_B G u t := hB; rw [hw] at hB; have hP := zt_B.P hB ht
    exact B20 σ5 x1 x2 x3 _ _ _ hf hP hS (lv_sub hl [1, 2, 3, 4] rfl)

theorem zh_X9_bestZone : yX9_bestZone.cls = RX9 ∧ yX9_bestZone.cls ≠ "java/lang/invoke/MethodHandle" ∧ yX9_bestZone.cls ≠ "java/lang/invoke/VarHandle" ∧ (parseMethodDescriptor yX9_bestZone.desc).map (fun d => d.parameters.length) = some 3 := by decide +kernel
set_option maxHeartbeats 4000000 in
set_option maxRecDepth 100000 in
theorem m_X9_bestZone (l : Launch) (G : zt_G) {σ : zt_St} {x1 : Int32} {x2 : Int32} {x3 : Int32} {r : Int32} (hf : f_X9_bestZone σ x1 x2 x3 = some r) : zt_Mi l G yX9_bestZone wsX9_bestZone 3 65 [.ref (zt_ad G 94), .int x1, .int x2, .int x3] σ r σ := by
  refine Met.ofW (cc := cX9_bestZone) (maxL := 7) (ret := (some .int)) (by decide) rfl ?_
  intro p e s m args below meth c s₁ B hml hv
  obtain ⟨rfl, hBB⟩ := hv
  have hE := zt_B.env hBB; have hK := hE.2.1; have hP := hBB.2.1
  have hx := B.exec; have hb := B.bytes; have hr := B.returns; have hts := atoms_spec (ws := wsX9_bestZone) B.pre
  have hown : s.vm.findClass RX9 = some m.cls := findClass_of_methodNamed B.named
  have hlocks := B.notSynchronized
  have hS : va_S (zt_A G) s.heap s.heap [] := va_S.rf
  have hl := lv_entry ([.ref (zt_ad G 94), .int x1, .int x2, .int x3]) (n := 7) (Nat.le_of_ble_eq_true rfl)
  rw [lg_entry_eq]
  generalize (lg_sl ([.ref (zt_ad G 94), .int x1, .int x2, .int x3]) ++ List.replicate (7 - (lg_sl ([.ref (zt_ad G 94), .int x1, .int x2, .int x3])).length) Slot.unset).toArray = ls at hl ⊢
  have hl : lv_has ls 7 [(0, .ref (zt_ad G 94)), (1, .int x1), (2, .int x2), (3, .int x3)] := hl
  show W p l e (zt_R 3 65) s m ([.ref (zt_ad G 94), .int x1, .int x2, .int x3] : List Value).toArray below meth c s.heap [] 0 0 (MQ below (zt_Ci G r σ) ([.ref (zt_ad G 94), .int x1, .int x2, .int x3] : List Value).toArray s 0 0 (zt_A G)) (F0 m 0 ls [])
  have fl7 := hts (.fieldLink RX9 7 "ZoneTreeModel" "zones" "I") (List.mem_cons_of_mem _ (List.mem_append_left _ (List.mem_of_getElem? (i := 0) rfl)))
  have fl13 := hts (.fieldLink RX9 13 "ZoneTreeModel" "apex" "[I") (List.mem_cons_of_mem _ (List.mem_append_left _ (List.mem_of_getElem? (i := 3) rfl)))
  have fl72 := hts (.fieldLink RX9 72 "ZoneTreeModel" "until" "[I") (List.mem_cons_of_mem _ (List.mem_append_left _ (List.mem_of_getElem? (i := 2) rfl)))
  have fl248 := hts (.fieldLink RX9 248 "ZoneTreeModel" "now" "I") (List.mem_cons_of_mem _ (List.mem_append_left _ (List.mem_of_getElem? (i := 1) rfl)))
  have inX9 : ∀ w ∈ wsX90, w ∈ wsX9_bestZone := fun w h => (List.mem_cons_of_mem _ (List.mem_append_right _ h))
  have B110 : ∀ (rc6 : Int32 → Int32 → Int32 → Int32 → Int32 → Option (Int32)) (hrc6 : ∀ (u1 : Int32) (u2 : Int32) (u3 : Int32) (u4 : Int32) (u5 : Int32) (H : Heap) (locs : List Loc) (ls : Array Slot), rc6 u1 u2 u3 u4 u5 = some r → va_P (zt_D G) vwCl (zt_ww G σ) H → va_S (zt_A G) s.heap H locs → lv_has ls 7 [(0, .ref (zt_ad G 94)), (1, .int u1), (2, .int u2), (3, .int u3), (4, .int u4), (5, .int u5)] → W p l e (zt_R 3 65) s m ([.ref (zt_ad G 94), .int x1, .int x2, .int x3] : List Value).toArray below meth c H locs 0 0 (MQ below (zt_Ci G r σ) ([.ref (zt_ad G 94), .int x1, .int x2, .int x3] : List Value).toArray s 0 0 (zt_A G)) (F0 m 6 ls [])), ∀ (y0 : Int32) (u1 : Int32) (u2 : Int32) (u3 : Int32) (u5 : Int32) (H : Heap) (locs : List Loc) (ls : Array Slot), f_X9_bestZone_110 σ rc6 y0 u1 u2 u3 u5 = some r → va_P (zt_D G) vwCl (zt_ww G σ) H → va_S (zt_A G) s.heap H locs → lv_has ls 7 [(0, .ref (zt_ad G 94)), (1, .int u1), (2, .int u2), (3, .int u3), (5, .int u5)] → W p l e (zt_R 3 65) s m ([.ref (zt_ad G 94), .int x1, .int x2, .int x3] : List Value).toArray below meth c H locs 0 0 (MQ below (zt_Ci G r σ) ([.ref (zt_ad G 94), .int x1, .int x2, .int x3] : List Value).toArray s 0 0 (zt_A G)) (F0 m 110 ls [.int y0]) := by
    intro rc6 hrc6 y0 u1 u2 u3 u5 H locs ls hf hP hS hl
    unfold f_X9_bestZone_110 at hf
    refine lv_istore (lv' := [(4, .int y0), (0, .ref (zt_ad G 94)), (1, .int u1), (2, .int u2), (3, .int u3), (5, .int u5)]) hx hb dX9_bestZone_110 hl (by decide) rfl (fun ls hl => ?_)
    refine lv_iinc (v := (u5 + 1)) (lv' := [(5, .int (u5 + 1)), (4, .int y0), (0, .ref (zt_ad G 94)), (1, .int u1), (2, .int u2), (3, .int u3)]) hx hb dX9_bestZone_112 hl (k := 5) rfl rfl (by decide) rfl (fun ls hl => ?_)
    refine lv_goto (tgt := 6) hx hb dX9_bestZone_115 (by decide) ?_
    exact hrc6 u1 u2 u3 y0 (u5 + 1) _ _ _ hf hP hS (lv_sub hl [2, 3, 4, 5, 1, 0] rfl)
  have B108 : ∀ (rc6 : Int32 → Int32 → Int32 → Int32 → Int32 → Option (Int32)) (hrc6 : ∀ (u1 : Int32) (u2 : Int32) (u3 : Int32) (u4 : Int32) (u5 : Int32) (H : Heap) (locs : List Loc) (ls : Array Slot), rc6 u1 u2 u3 u4 u5 = some r → va_P (zt_D G) vwCl (zt_ww G σ) H → va_S (zt_A G) s.heap H locs → lv_has ls 7 [(0, .ref (zt_ad G 94)), (1, .int u1), (2, .int u2), (3, .int u3), (4, .int u4), (5, .int u5)] → W p l e (zt_R 3 65) s m ([.ref (zt_ad G 94), .int x1, .int x2, .int x3] : List Value).toArray below meth c H locs 0 0 (MQ below (zt_Ci G r σ) ([.ref (zt_ad G 94), .int x1, .int x2, .int x3] : List Value).toArray s 0 0 (zt_A G)) (F0 m 6 ls [])), ∀ (u1 : Int32) (u2 : Int32) (u3 : Int32) (u4 : Int32) (u5 : Int32) (H : Heap) (locs : List Loc) (ls : Array Slot), f_X9_bestZone_108 σ rc6 u1 u2 u3 u4 u5 = some r → va_P (zt_D G) vwCl (zt_ww G σ) H → va_S (zt_A G) s.heap H locs → lv_has ls 7 [(0, .ref (zt_ad G 94)), (1, .int u1), (2, .int u2), (3, .int u3), (4, .int u4), (5, .int u5)] → W p l e (zt_R 3 65) s m ([.ref (zt_ad G 94), .int x1, .int x2, .int x3] : List Value).toArray below meth c H locs 0 0 (MQ below (zt_Ci G r σ) ([.ref (zt_ad G 94), .int x1, .int x2, .int x3] : List Value).toArray s 0 0 (zt_A G)) (F0 m 108 ls []) := by
    intro rc6 hrc6 u1 u2 u3 u4 u5 H locs ls hf hP hS hl
    unfold f_X9_bestZone_108 at hf
    refine lv_iload hx hb dX9_bestZone_108 (lv_at hl 4 rfl) ?_
    exact B110 rc6 hrc6 u4 u1 u2 u3 u5 _ _ _ hf hP hS (lv_sub hl [0, 1, 2, 3, 5] rfl)
  have B73 : ∀ (rc6 : Int32 → Int32 → Int32 → Int32 → Int32 → Option (Int32)) (hrc6 : ∀ (u1 : Int32) (u2 : Int32) (u3 : Int32) (u4 : Int32) (u5 : Int32) (H : Heap) (locs : List Loc) (ls : Array Slot), rc6 u1 u2 u3 u4 u5 = some r → va_P (zt_D G) vwCl (zt_ww G σ) H → va_S (zt_A G) s.heap H locs → lv_has ls 7 [(0, .ref (zt_ad G 94)), (1, .int u1), (2, .int u2), (3, .int u3), (4, .int u4), (5, .int u5)] → W p l e (zt_R 3 65) s m ([.ref (zt_ad G 94), .int x1, .int x2, .int x3] : List Value).toArray below meth c H locs 0 0 (MQ below (zt_Ci G r σ) ([.ref (zt_ad G 94), .int x1, .int x2, .int x3] : List Value).toArray s 0 0 (zt_A G)) (F0 m 6 ls [])), ∀ (y0 : Int32) (u1 : Int32) (u2 : Int32) (u3 : Int32) (u4 : Int32) (u5 : Int32) (H : Heap) (locs : List Loc) (ls : Array Slot), f_X9_bestZone_73 σ rc6 y0 u1 u2 u3 u4 u5 = some r → va_P (zt_D G) vwCl (zt_ww G σ) H → va_S (zt_A G) s.heap H locs → lv_has ls 7 [(0, .ref (zt_ad G 94)), (1, .int u1), (2, .int u2), (3, .int u3), (4, .int u4), (5, .int u5)] → W p l e (zt_R 3 65) s m ([.ref (zt_ad G 94), .int x1, .int x2, .int x3] : List Value).toArray below meth c H locs 0 0 (MQ below (zt_Ci G r σ) ([.ref (zt_ad G 94), .int x1, .int x2, .int x3] : List Value).toArray s 0 0 (zt_A G)) (F0 m 73 ls [.int y0]) := by
    intro rc6 hrc6 y0 u1 u2 u3 u4 u5 H locs ls hf hP hS hl
    unfold f_X9_bestZone_73 at hf
    refine lv_istore (lv' := [(6, .int y0), (0, .ref (zt_ad G 94)), (1, .int u1), (2, .int u2), (3, .int u3), (4, .int u4), (5, .int u5)]) hx hb dX9_bestZone_73 hl (by decide) rfl (fun ls hl => ?_)
    refine lv_iload hx hb dX9_bestZone_75 (lv_at hl 0 rfl) ?_
    refine lv_if_eq (tgt := 108) hx hb dX9_bestZone_77 (by decide) (fun c13 => ?_) (fun c13 => ?_)
    · have hf := (if_pos c13).symm.trans hf
      exact B108 rc6 hrc6 u1 u2 u3 u4 u5 _ _ _ hf hP hS (lv_sub hl [1, 2, 3, 4, 5, 6] rfl)
    · have hf := (if_neg c13).symm.trans hf
      refine lv_aload_n hx hb dX9_bestZone_80 rfl (lv_at hl 1 rfl) ?_
      refine va_get (D := zt_D G) (ci := 8) (v := .ref (zt_ad G 95)) (C := RX9) (T := TX9) (N := 37) hx hb hts inX9 hown hK hP 94 (zt_a8 (rfl : zt_kd 94 = 8)) rfl 3 (by decide) fl13 (fun _ h9 => h9) rfl dX9_bestZone_81 ?_
      refine lv_iload hx hb dX9_bestZone_84 (lv_at hl 6 rfl) ?_
      obtain ⟨g14, hf⟩ := zt_gd_some hf
      refine va_iald hx hb hK hP 95 0 zt_a_95 rfl (zt_gI_in g14) dX9_bestZone_86 ?_
      obtain ⟨v15, hvv15, hf⟩ := zt_bd_some hf
      refine va_calli (va_runS (As := [.int (σ 95 u5.toNatClampNeg)]) (rest := []) ⟨hx, hb, hml, hown, hts⟩ (m_X9_figures l G (σ := σ) hvv15) (va_cwS 1 hts gX9_bestZone_X9_figures rfl rfl rfl zh_X9_figures ⟨Nat.le_of_ble_eq_true rfl, Nat.le_of_ble_eq_true rfl⟩) ⟨zt_blind, fun U hU hW => ⟨rfl, zt_go hE hP hS zt_id hU hW⟩⟩ rfl rfl hl.1 rfl (lv_room (Nat.le_of_ble_eq_true rfl)) dX9_bestZone_87 ⟨Nat.zero_le _, Nat.zero_le _⟩) hS (fun _ _ h => h) (fun _ h => h) (fun r u t H locs ht hvm hw hB _ _ hS => ?_)
      rw [hw.1]; have hB : zt_B G u t := hB; rw [hw.2] at hB; have hP := zt_B.P hB ht
      refine lv_aload_n hx hb dX9_bestZone_90 rfl (lv_at hl 1 rfl) ?_
      refine va_get (D := zt_D G) (ci := 8) (v := .ref (zt_ad G 95)) (C := RX9) (T := TX9) (N := 37) hx hb hts inX9 hown hK hP 94 (zt_a8 (rfl : zt_kd 94 = 8)) rfl 3 (by decide) fl13 (fun _ h9 => h9) rfl dX9_bestZone_91 ?_
      refine lv_iload hx hb dX9_bestZone_94 (lv_at hl 5 rfl) ?_
      obtain ⟨g17, hf⟩ := zt_gd_some hf
      refine va_iald hx hb hK hP 95 0 zt_a_95 rfl (zt_gI_in g17) dX9_bestZone_96 ?_
      obtain ⟨v18, hvv18, hf⟩ := zt_bd_some hf
      refine va_calli (va_runS (As := [.int (σ 95 u4.toNatClampNeg)]) (rest := [.int v15]) ⟨hx, hb, hml, hown, hts⟩ (m_X9_figures l G (σ := σ) hvv18) (va_cwS 1 hts gX9_bestZone_X9_figures rfl rfl rfl zh_X9_figures ⟨Nat.le_of_ble_eq_true rfl, Nat.le_of_ble_eq_true rfl⟩) ⟨zt_blind, fun U hU hW => ⟨rfl, zt_go hE hP hS zt_id hU hW⟩⟩ rfl rfl hl.1 rfl (lv_room (Nat.le_of_ble_eq_true rfl)) dX9_bestZone_97 ⟨Nat.zero_le _, Nat.zero_le _⟩) hS (fun _ _ h => h) (fun _ h => h) (fun r u t H locs ht hvm hw hB _ _ hS => ?_)
      rw [hw.1]; have hB : zt_B G u t := hB; rw [hw.2] at hB; have hP := zt_B.P hB ht
      refine lv_icmp_le (tgt := 108) hx hb dX9_bestZone_100 (by decide) (fun c20 => ?_) (fun c20 => ?_)
      · have hf := (if_pos c20).symm.trans hf
        exact B108 rc6 hrc6 u1 u2 u3 u4 u5 _ _ _ hf hP hS (lv_sub hl [1, 2, 3, 4, 5, 6] rfl)
      · have hf := (if_neg c20).symm.trans hf
        refine lv_iload hx hb dX9_bestZone_103 (lv_at hl 6 rfl) ?_
        refine lv_goto (tgt := 110) hx hb dX9_bestZone_105 (by decide) ?_
        exact B110 rc6 hrc6 u5 u1 u2 u3 u5 _ _ _ hf hP hS (lv_sub hl [1, 2, 3, 4, 6] rfl)
  have B72 : ∀ (rc6 : Int32 → Int32 → Int32 → Int32 → Int32 → Option (Int32)) (hrc6 : ∀ (u1 : Int32) (u2 : Int32) (u3 : Int32) (u4 : Int32) (u5 : Int32) (H : Heap) (locs : List Loc) (ls : Array Slot), rc6 u1 u2 u3 u4 u5 = some r → va_P (zt_D G) vwCl (zt_ww G σ) H → va_S (zt_A G) s.heap H locs → lv_has ls 7 [(0, .ref (zt_ad G 94)), (1, .int u1), (2, .int u2), (3, .int u3), (4, .int u4), (5, .int u5)] → W p l e (zt_R 3 65) s m ([.ref (zt_ad G 94), .int x1, .int x2, .int x3] : List Value).toArray below meth c H locs 0 0 (MQ below (zt_Ci G r σ) ([.ref (zt_ad G 94), .int x1, .int x2, .int x3] : List Value).toArray s 0 0 (zt_A G)) (F0 m 6 ls [])), ∀ (u1 : Int32) (u2 : Int32) (u3 : Int32) (u4 : Int32) (u5 : Int32) (H : Heap) (locs : List Loc) (ls : Array Slot), f_X9_bestZone_72 σ rc6 u1 u2 u3 u4 u5 = some r → va_P (zt_D G) vwCl (zt_ww G σ) H → va_S (zt_A G) s.heap H locs → lv_has ls 7 [(0, .ref (zt_ad G 94)), (1, .int u1), (2, .int u2), (3, .int u3), (4, .int u4), (5, .int u5)] → W p l e (zt_R 3 65) s m ([.ref (zt_ad G 94), .int x1, .int x2, .int x3] : List Value).toArray below meth c H locs 0 0 (MQ below (zt_Ci G r σ) ([.ref (zt_ad G 94), .int x1, .int x2, .int x3] : List Value).toArray s 0 0 (zt_A G)) (F0 m 72 ls []) := by
    intro rc6 hrc6 u1 u2 u3 u4 u5 H locs ls hf hP hS hl
    unfold f_X9_bestZone_72 at hf
    refine lv_iconst (v := 0) hx hb dX9_bestZone_72 (by decide) ?_
    exact B73 rc6 hrc6 0 u1 u2 u3 u4 u5 _ _ _ hf hP hS (lv_sub hl [0, 1, 2, 3, 4, 5] rfl)
  have B68 : ∀ (rc6 : Int32 → Int32 → Int32 → Int32 → Int32 → Option (Int32)) (hrc6 : ∀ (u1 : Int32) (u2 : Int32) (u3 : Int32) (u4 : Int32) (u5 : Int32) (H : Heap) (locs : List Loc) (ls : Array Slot), rc6 u1 u2 u3 u4 u5 = some r → va_P (zt_D G) vwCl (zt_ww G σ) H → va_S (zt_A G) s.heap H locs → lv_has ls 7 [(0, .ref (zt_ad G 94)), (1, .int u1), (2, .int u2), (3, .int u3), (4, .int u4), (5, .int u5)] → W p l e (zt_R 3 65) s m ([.ref (zt_ad G 94), .int x1, .int x2, .int x3] : List Value).toArray below meth c H locs 0 0 (MQ below (zt_Ci G r σ) ([.ref (zt_ad G 94), .int x1, .int x2, .int x3] : List Value).toArray s 0 0 (zt_A G)) (F0 m 6 ls [])), ∀ (u1 : Int32) (u2 : Int32) (u3 : Int32) (u4 : Int32) (u5 : Int32) (H : Heap) (locs : List Loc) (ls : Array Slot), f_X9_bestZone_68 σ rc6 u1 u2 u3 u4 u5 = some r → va_P (zt_D G) vwCl (zt_ww G σ) H → va_S (zt_A G) s.heap H locs → lv_has ls 7 [(0, .ref (zt_ad G 94)), (1, .int u1), (2, .int u2), (3, .int u3), (4, .int u4), (5, .int u5)] → W p l e (zt_R 3 65) s m ([.ref (zt_ad G 94), .int x1, .int x2, .int x3] : List Value).toArray below meth c H locs 0 0 (MQ below (zt_Ci G r σ) ([.ref (zt_ad G 94), .int x1, .int x2, .int x3] : List Value).toArray s 0 0 (zt_A G)) (F0 m 68 ls []) := by
    intro rc6 hrc6 u1 u2 u3 u4 u5 H locs ls hf hP hS hl
    unfold f_X9_bestZone_68 at hf
    refine lv_iconst (v := 1) hx hb dX9_bestZone_68 (by decide) ?_
    refine lv_goto (tgt := 73) hx hb dX9_bestZone_69 (by decide) ?_
    exact B73 rc6 hrc6 1 u1 u2 u3 u4 u5 _ _ _ hf hP hS (lv_sub hl [0, 1, 2, 3, 4, 5] rfl)
  have B6 : ∀ (n : Nat), ∀ (u1 : Int32) (u2 : Int32) (u3 : Int32) (u4 : Int32) (u5 : Int32) (H : Heap) (locs : List Loc) (ls : Array Slot), f_X9_bestZone_6 σ n u1 u2 u3 u4 u5 = some r → va_P (zt_D G) vwCl (zt_ww G σ) H → va_S (zt_A G) s.heap H locs → lv_has ls 7 [(0, .ref (zt_ad G 94)), (1, .int u1), (2, .int u2), (3, .int u3), (4, .int u4), (5, .int u5)] → W p l e (zt_R 3 65) s m ([.ref (zt_ad G 94), .int x1, .int x2, .int x3] : List Value).toArray below meth c H locs 0 0 (MQ below (zt_Ci G r σ) ([.ref (zt_ad G 94), .int x1, .int x2, .int x3] : List Value).toArray s 0 0 (zt_A G)) (F0 m 6 ls []) := by
    intro n
    induction n with
    | zero => intro u1 u2 u3 u4 u5 H locs ls hf; exact nomatch hf
    | succ n hrc6 =>
      intro u1 u2 u3 u4 u5 H locs ls hf hP hS hl
      generalize hrcg : f_X9_bestZone_6 σ n = rc6 at hrc6
      have hf : f_X9_bestZone_6b σ rc6 u1 u2 u3 u4 u5 = some r := by rw [← hrcg]; exact hf
      unfold f_X9_bestZone_6b at hf
      refine lv_iload hx hb dX9_bestZone_6 (lv_at hl 5 rfl) ?_
      refine lv_aload_n hx hb dX9_bestZone_8 rfl (lv_at hl 0 rfl) ?_
      refine va_get (D := zt_D G) (ci := 8) (v := .int (σ 94 2)) (C := RX9) (T := TX9) (N := 37) hx hb hts inX9 hown hK hP 94 (zt_a8 (rfl : zt_kd 94 = 8)) rfl 2 (by decide) fl7 (fun _ h9 => h9) rfl dX9_bestZone_9 ?_
      refine lv_icmp_ge (tgt := 118) hx hb dX9_bestZone_12 (by decide) (fun c1 => ?_) (fun c1 => ?_)
      · have hf := (if_pos c1).symm.trans hf
        refine lv_iload hx hb dX9_bestZone_118 (lv_at hl 4 rfl) ?_
        exact W.iret hx hb hr (fun t ht hW => ⟨⟨_, _, rfl, ⟨Option.some.inj hf, rfl⟩, zt_go hE hP hS zt_id ht hW⟩, hS.F ht⟩) hS.2.2 dX9_bestZone_120
      · have hf := (if_neg c1).symm.trans hf
        refine lv_iload_n hx hb dX9_bestZone_15 rfl (lv_at hl 3 rfl) ?_
        refine lv_if_ne (tgt := 72) hx hb dX9_bestZone_16 (by decide) (fun c2 => ?_) (fun c2 => ?_)
        · have hf := (if_neg c2).symm.trans hf
          exact B72 rc6 hrc6 u1 u2 u3 u4 u5 _ _ _ hf hP hS (lv_sub hl [0, 1, 2, 3, 4, 5] rfl)
        · have hf := (if_pos c2).symm.trans hf
          refine lv_aload_n hx hb dX9_bestZone_19 rfl (lv_at hl 0 rfl) ?_
          refine va_get (D := zt_D G) (ci := 8) (v := .int (σ 94 1)) (C := RX9) (T := TX9) (N := 37) hx hb hts inX9 hown hK hP 94 (zt_a8 (rfl : zt_kd 94 = 8)) rfl 1 (by decide) fl248 (fun _ h9 => h9) rfl dX9_bestZone_20 ?_
          refine lv_aload_n hx hb dX9_bestZone_23 rfl (lv_at hl 0 rfl) ?_
          refine va_get (D := zt_D G) (ci := 8) (v := .ref (zt_ad G 113)) (C := RX9) (T := TX9) (N := 37) hx hb hts inX9 hown hK hP 94 (zt_a8 (rfl : zt_kd 94 = 8)) rfl 23 (by decide) fl72 (fun _ h9 => h9) rfl dX9_bestZone_24 ?_
          refine lv_iload hx hb dX9_bestZone_27 (lv_at hl 5 rfl) ?_
          obtain ⟨g3, hf⟩ := zt_gd_some hf
          refine va_iald hx hb hK hP 113 0 zt_a_113 rfl (zt_gI_in g3) dX9_bestZone_29 ?_
          refine lv_icmp_ge (tgt := 72) hx hb dX9_bestZone_30 (by decide) (fun c4 => ?_) (fun c4 => ?_)
          · have hf := (if_pos c4).symm.trans hf
            exact B72 rc6 hrc6 u1 u2 u3 u4 u5 _ _ _ hf hP hS (lv_sub hl [0, 1, 2, 3, 4, 5] rfl)
          · have hf := (if_neg c4).symm.trans hf
            refine lv_iload_n hx hb dX9_bestZone_33 rfl (lv_at hl 1 rfl) ?_
            refine lv_aload_n hx hb dX9_bestZone_34 rfl (lv_at hl 0 rfl) ?_
            refine va_get (D := zt_D G) (ci := 8) (v := .ref (zt_ad G 95)) (C := RX9) (T := TX9) (N := 37) hx hb hts inX9 hown hK hP 94 (zt_a8 (rfl : zt_kd 94 = 8)) rfl 3 (by decide) fl13 (fun _ h9 => h9) rfl dX9_bestZone_35 ?_
            refine lv_iload hx hb dX9_bestZone_38 (lv_at hl 5 rfl) ?_
            obtain ⟨g5, hf⟩ := zt_gd_some hf
            refine va_iald hx hb hK hP 95 0 zt_a_95 rfl (zt_gI_in g5) dX9_bestZone_40 ?_
            obtain ⟨v6, hvv6, hf⟩ := zt_bd_some hf
            refine va_calli (va_runS (As := [.int u1, .int (σ 95 u5.toNatClampNeg)]) (rest := []) ⟨hx, hb, hml, hown, hts⟩ (m_X9_isUnder l G (σ := σ) hvv6) (va_cwS 2 hts gX9_bestZone_X9_isUnder rfl rfl rfl zh_X9_isUnder ⟨Nat.le_of_ble_eq_true rfl, Nat.le_of_ble_eq_true rfl⟩) ⟨zt_blind, fun U hU hW => ⟨rfl, zt_go hE hP hS zt_id hU hW⟩⟩ rfl rfl hl.1 rfl (lv_room (Nat.le_of_ble_eq_true rfl)) dX9_bestZone_41 ⟨Nat.zero_le _, Nat.zero_le _⟩) hS (fun _ _ h => h) (fun _ h => h) (fun r u t H locs ht hvm hw hB _ _ hS => ?_)
            rw [hw.1]; have hB : zt_B G u t := hB; rw [hw.2] at hB; have hP := zt_B.P hB ht
            refine lv_if_eq (tgt := 72) hx hb dX9_bestZone_44 (by decide) (fun c8 => ?_) (fun c8 => ?_)
            · have hf := (if_pos c8).symm.trans hf
              exact B72 rc6 hrc6 u1 u2 u3 u4 u5 _ _ _ hf hP hS (lv_sub hl [0, 1, 2, 3, 4, 5] rfl)
            · have hf := (if_neg c8).symm.trans hf
              refine lv_aload_n hx hb dX9_bestZone_47 rfl (lv_at hl 0 rfl) ?_
              refine va_get (D := zt_D G) (ci := 8) (v := .ref (zt_ad G 95)) (C := RX9) (T := TX9) (N := 37) hx hb hts inX9 hown hK hP 94 (zt_a8 (rfl : zt_kd 94 = 8)) rfl 3 (by decide) fl13 (fun _ h9 => h9) rfl dX9_bestZone_48 ?_
              refine lv_iload hx hb dX9_bestZone_51 (lv_at hl 5 rfl) ?_
              obtain ⟨g9, hf⟩ := zt_gd_some hf
              refine va_iald hx hb hK hP 95 0 zt_a_95 rfl (zt_gI_in g9) dX9_bestZone_53 ?_
              refine lv_iload_n hx hb dX9_bestZone_54 rfl (lv_at hl 1 rfl) ?_
              refine lv_icmp_ne (tgt := 68) hx hb dX9_bestZone_55 (by decide) (fun c10 => ?_) (fun c10 => ?_)
              · have hf := (if_neg c10).symm.trans hf
                exact B68 rc6 hrc6 u1 u2 u3 u4 u5 _ _ _ hf hP hS (lv_sub hl [0, 1, 2, 3, 4, 5] rfl)
              · have hf := (if_pos c10).symm.trans hf
                refine lv_iload_n hx hb dX9_bestZone_58 rfl (lv_at hl 2 rfl) ?_
                refine lv_iconst (v := 3) hx hb dX9_bestZone_59 (by decide) ?_
                refine lv_icmp_eq (tgt := 72) hx hb dX9_bestZone_60 (by decide) (fun c11 => ?_) (fun c11 => ?_)
                · have hf := (if_pos c11).symm.trans hf
                  exact B72 rc6 hrc6 u1 u2 u3 u4 u5 _ _ _ hf hP hS (lv_sub hl [0, 1, 2, 3, 4, 5] rfl)
                · have hf := (if_neg c11).symm.trans hf
                  refine lv_iload_n hx hb dX9_bestZone_63 rfl (lv_at hl 2 rfl) ?_
                  refine lv_iconst (v := 4) hx hb dX9_bestZone_64 (by decide) ?_
                  refine lv_icmp_eq (tgt := 72) hx hb dX9_bestZone_65 (by decide) (fun c12 => ?_) (fun c12 => ?_)
                  · have hf := (if_pos c12).symm.trans hf
                    exact B72 rc6 hrc6 u1 u2 u3 u4 u5 _ _ _ hf hP hS (lv_sub hl [0, 1, 2, 3, 4, 5] rfl)
                  · have hf := (if_neg c12).symm.trans hf
                    exact B68 rc6 hrc6 u1 u2 u3 u4 u5 _ _ _ hf hP hS (lv_sub hl [0, 1, 2, 3, 4, 5] rfl)
  unfold f_X9_bestZone at hf
  refine lv_iconst (v := 0) hx hb dX9_bestZone_0 (by decide) ?_
  refine lv_istore (lv' := [(4, .int 0), (0, .ref (zt_ad G 94)), (1, .int x1), (2, .int x2), (3, .int x3)]) hx hb dX9_bestZone_1 hl (by decide) rfl (fun ls hl => ?_)
  refine lv_iconst (v := 1) hx hb dX9_bestZone_3 (by decide) ?_
  refine lv_istore (lv' := [(5, .int 1), (4, .int 0), (0, .ref (zt_ad G 94)), (1, .int x1), (2, .int x2), (3, .int x3)]) hx hb dX9_bestZone_4 hl (by decide) rfl (fun ls hl => ?_)
  exact B6 zt_FU x1 x2 x3 0 1 _ _ _ hf hP hS (lv_sub hl [2, 3, 4, 5, 1, 0] rfl)

theorem zh_X9_code : yX9_code.cls = RX9 ∧ yX9_code.cls ≠ "java/lang/invoke/MethodHandle" ∧ yX9_code.cls ≠ "java/lang/invoke/VarHandle" ∧ (parseMethodDescriptor yX9_code.desc).map (fun d => d.parameters.length) = some 1 := by decide +kernel
set_option maxHeartbeats 4000000 in
set_option maxRecDepth 100000 in
theorem m_X9_code (l : Launch) (G : zt_G) {σ : zt_St} {x1 : Int32} {r : Int32} (hf : f_X9_code x1 = some r) : zt_Mi l G yX9_code wsX9_code 0 0 [.ref (zt_ad G 94), .int x1] σ r σ := by
  refine Met.ofW (cc := cX9_code) (maxL := 2) (ret := (some .int)) (by decide) rfl ?_
  intro p e s m args below meth c s₁ B hml hv
  obtain ⟨rfl, hBB⟩ := hv
  have hE := zt_B.env hBB; have hK := hE.2.1; have hP := hBB.2.1
  have hx := B.exec; have hb := B.bytes; have hr := B.returns; have hts := atoms_spec (ws := wsX9_code) B.pre
  have hown : s.vm.findClass RX9 = some m.cls := findClass_of_methodNamed B.named
  have hlocks := B.notSynchronized
  have hS : va_S (zt_A G) s.heap s.heap [] := va_S.rf
  have hl := lv_entry ([.ref (zt_ad G 94), .int x1]) (n := 2) (Nat.le_of_ble_eq_true rfl)
  rw [lg_entry_eq]
  generalize (lg_sl ([.ref (zt_ad G 94), .int x1]) ++ List.replicate (2 - (lg_sl ([.ref (zt_ad G 94), .int x1])).length) Slot.unset).toArray = ls at hl ⊢
  have hl : lv_has ls 2 [(0, .ref (zt_ad G 94)), (1, .int x1)] := hl
  show W p l e (zt_R 0 0) s m ([.ref (zt_ad G 94), .int x1] : List Value).toArray below meth c s.heap [] 0 0 (MQ below (zt_Ci G r σ) ([.ref (zt_ad G 94), .int x1] : List Value).toArray s 0 0 (zt_A G)) (F0 m 0 ls [])
  unfold f_X9_code at hf
  refine lv_bipush (v := 31) hx hb dX9_code_0 (by decide +kernel) ?_
  refine lv_iload_n hx hb dX9_code_2 rfl (lv_at hl 1 rfl) ?_
  refine lv_imul hx hb dX9_code_3 ?_
  refine lv_bipush (v := 7) hx hb dX9_code_4 (by decide +kernel) ?_
  refine lv_iadd hx hb dX9_code_6 ?_
  refine lv_sipush (v := 997) hx hb dX9_code_7 (by decide +kernel) ?_
  refine lv_irem hx hb dX9_code_10 (by decide) ?_
  exact W.iret hx hb hr (fun t ht hW => ⟨⟨_, _, rfl, ⟨Option.some.inj hf, rfl⟩, zt_go hE hP hS zt_id ht hW⟩, hS.F ht⟩) hS.2.2 dX9_code_11

theorem zh_X9_isGood : yX9_isGood.cls = RX9 ∧ yX9_isGood.cls ≠ "java/lang/invoke/MethodHandle" ∧ yX9_isGood.cls ≠ "java/lang/invoke/VarHandle" ∧ (parseMethodDescriptor yX9_isGood.desc).map (fun d => d.parameters.length) = some 2 := by decide +kernel
set_option maxHeartbeats 4000000 in
set_option maxRecDepth 100000 in
theorem m_X9_isGood (l : Launch) (G : zt_G) {σ : zt_St} {x1 : Int32} {x2 : Int32} {r : Int32} (hf : f_X9_isGood σ x1 x2 = some r) : zt_Mi l G yX9_isGood wsX9_isGood 1 22 [.ref (zt_ad G 94), .int x1, .int x2] σ r σ := by
  refine Met.ofW (cc := cX9_isGood) (maxL := 5) (ret := (some .boolean)) (by decide) rfl ?_
  intro p e s m args below meth c s₁ B hml hv
  obtain ⟨rfl, hBB⟩ := hv
  have hE := zt_B.env hBB; have hK := hE.2.1; have hP := hBB.2.1
  have hx := B.exec; have hb := B.bytes; have hr := B.returns; have hts := atoms_spec (ws := wsX9_isGood) B.pre
  have hown : s.vm.findClass RX9 = some m.cls := findClass_of_methodNamed B.named
  have hlocks := B.notSynchronized
  have hS : va_S (zt_A G) s.heap s.heap [] := va_S.rf
  have hl := lv_entry ([.ref (zt_ad G 94), .int x1, .int x2]) (n := 5) (Nat.le_of_ble_eq_true rfl)
  rw [lg_entry_eq]
  generalize (lg_sl ([.ref (zt_ad G 94), .int x1, .int x2]) ++ List.replicate (5 - (lg_sl ([.ref (zt_ad G 94), .int x1, .int x2])).length) Slot.unset).toArray = ls at hl ⊢
  have hl : lv_has ls 5 [(0, .ref (zt_ad G 94)), (1, .int x1), (2, .int x2)] := hl
  show W p l e (zt_R 1 22) s m ([.ref (zt_ad G 94), .int x1, .int x2] : List Value).toArray below meth c s.heap [] 0 0 (MQ below (zt_Ci G r σ) ([.ref (zt_ad G 94), .int x1, .int x2] : List Value).toArray s 0 0 (zt_A G)) (F0 m 0 ls [])
  have fl30 := hts (.fieldLink RX9 30 "ZoneTreeModel" "key" "[I") (List.mem_cons_of_mem _ (List.mem_append_left _ (List.mem_of_getElem? (i := 0) rfl)))
  have fl33 := hts (.fieldLink RX9 33 "ZoneTreeModel" "from" "[I") (List.mem_cons_of_mem _ (List.mem_append_left _ (List.mem_of_getElem? (i := 2) rfl)))
  have fl36 := hts (.fieldLink RX9 36 "ZoneTreeModel" "to" "[I") (List.mem_cons_of_mem _ (List.mem_append_left _ (List.mem_of_getElem? (i := 3) rfl)))
  have fl248 := hts (.fieldLink RX9 248 "ZoneTreeModel" "now" "I") (List.mem_cons_of_mem _ (List.mem_append_left _ (List.mem_of_getElem? (i := 1) rfl)))
  have inX9 : ∀ w ∈ wsX90, w ∈ wsX9_isGood := fun w h => (List.mem_cons_of_mem _ (List.mem_append_right _ h))
  have B51 : ∀ (rc5 : Int32 → Int32 → Int32 → Int32 → Option (Int32)) (hrc5 : ∀ (u1 : Int32) (u2 : Int32) (u3 : Int32) (u4 : Int32) (H : Heap) (locs : List Loc) (ls : Array Slot), rc5 u1 u2 u3 u4 = some r → va_P (zt_D G) vwCl (zt_ww G σ) H → va_S (zt_A G) s.heap H locs → lv_has ls 5 [(0, .ref (zt_ad G 94)), (1, .int u1), (2, .int u2), (3, .int u3), (4, .int u4)] → W p l e (zt_R 1 22) s m ([.ref (zt_ad G 94), .int x1, .int x2] : List Value).toArray below meth c H locs 0 0 (MQ below (zt_Ci G r σ) ([.ref (zt_ad G 94), .int x1, .int x2] : List Value).toArray s 0 0 (zt_A G)) (F0 m 5 ls [])), ∀ (y0 : Int32) (y1 : Int32) (u1 : Int32) (u2 : Int32) (u4 : Int32) (H : Heap) (locs : List Loc) (ls : Array Slot), f_X9_isGood_51 σ rc5 y0 y1 u1 u2 u4 = some r → va_P (zt_D G) vwCl (zt_ww G σ) H → va_S (zt_A G) s.heap H locs → lv_has ls 5 [(0, .ref (zt_ad G 94)), (1, .int u1), (2, .int u2), (4, .int u4)] → W p l e (zt_R 1 22) s m ([.ref (zt_ad G 94), .int x1, .int x2] : List Value).toArray below meth c H locs 0 0 (MQ below (zt_Ci G r σ) ([.ref (zt_ad G 94), .int x1, .int x2] : List Value).toArray s 0 0 (zt_A G)) (F0 m 51 ls [.int y0, .int y1]) := by
    intro rc5 hrc5 y0 y1 u1 u2 u4 H locs ls hf hP hS hl
    unfold f_X9_isGood_51 at hf
    refine lv_ior hx hb dX9_isGood_51 ?_
    refine lv_istore_n (lv' := [(3, .int (y1 ||| y0)), (0, .ref (zt_ad G 94)), (1, .int u1), (2, .int u2), (4, .int u4)]) hx hb dX9_isGood_52 rfl hl (by decide) rfl (fun ls hl => ?_)
    refine lv_iinc (v := (u4 + 1)) (lv' := [(4, .int (u4 + 1)), (3, .int (y1 ||| y0)), (0, .ref (zt_ad G 94)), (1, .int u1), (2, .int u2)]) hx hb dX9_isGood_53 hl (k := 4) rfl rfl (by decide) rfl (fun ls hl => ?_)
    refine lv_goto (tgt := 5) hx hb dX9_isGood_56 (by decide) ?_
    exact hrc5 u1 u2 (y1 ||| y0) (u4 + 1) _ _ _ hf hP hS (lv_sub hl [2, 3, 4, 1, 0] rfl)
  have B50 : ∀ (rc5 : Int32 → Int32 → Int32 → Int32 → Option (Int32)) (hrc5 : ∀ (u1 : Int32) (u2 : Int32) (u3 : Int32) (u4 : Int32) (H : Heap) (locs : List Loc) (ls : Array Slot), rc5 u1 u2 u3 u4 = some r → va_P (zt_D G) vwCl (zt_ww G σ) H → va_S (zt_A G) s.heap H locs → lv_has ls 5 [(0, .ref (zt_ad G 94)), (1, .int u1), (2, .int u2), (3, .int u3), (4, .int u4)] → W p l e (zt_R 1 22) s m ([.ref (zt_ad G 94), .int x1, .int x2] : List Value).toArray below meth c H locs 0 0 (MQ below (zt_Ci G r σ) ([.ref (zt_ad G 94), .int x1, .int x2] : List Value).toArray s 0 0 (zt_A G)) (F0 m 5 ls [])), ∀ (y0 : Int32) (u1 : Int32) (u2 : Int32) (u4 : Int32) (H : Heap) (locs : List Loc) (ls : Array Slot), f_X9_isGood_50 σ rc5 y0 u1 u2 u4 = some r → va_P (zt_D G) vwCl (zt_ww G σ) H → va_S (zt_A G) s.heap H locs → lv_has ls 5 [(0, .ref (zt_ad G 94)), (1, .int u1), (2, .int u2), (4, .int u4)] → W p l e (zt_R 1 22) s m ([.ref (zt_ad G 94), .int x1, .int x2] : List Value).toArray below meth c H locs 0 0 (MQ below (zt_Ci G r σ) ([.ref (zt_ad G 94), .int x1, .int x2] : List Value).toArray s 0 0 (zt_A G)) (F0 m 50 ls [.int y0]) := by
    intro rc5 hrc5 y0 u1 u2 u4 H locs ls hf hP hS hl
    unfold f_X9_isGood_50 at hf
    refine lv_iconst (v := 0) hx hb dX9_isGood_50 (by decide) ?_
    exact B51 rc5 hrc5 0 y0 u1 u2 u4 _ _ _ hf hP hS (lv_sub hl [0, 1, 2, 3] rfl)
  have B5 : ∀ (n : Nat), ∀ (u1 : Int32) (u2 : Int32) (u3 : Int32) (u4 : Int32) (H : Heap) (locs : List Loc) (ls : Array Slot), f_X9_isGood_5 σ n u1 u2 u3 u4 = some r → va_P (zt_D G) vwCl (zt_ww G σ) H → va_S (zt_A G) s.heap H locs → lv_has ls 5 [(0, .ref (zt_ad G 94)), (1, .int u1), (2, .int u2), (3, .int u3), (4, .int u4)] → W p l e (zt_R 1 22) s m ([.ref (zt_ad G 94), .int x1, .int x2] : List Value).toArray below meth c H locs 0 0 (MQ below (zt_Ci G r σ) ([.ref (zt_ad G 94), .int x1, .int x2] : List Value).toArray s 0 0 (zt_A G)) (F0 m 5 ls []) := by
    intro n
    induction n with
    | zero => intro u1 u2 u3 u4 H locs ls hf; exact nomatch hf
    | succ n hrc5 =>
      intro u1 u2 u3 u4 H locs ls hf hP hS hl
      generalize hrcg : f_X9_isGood_5 σ n = rc5 at hrc5
      have hf : f_X9_isGood_5b σ rc5 u1 u2 u3 u4 = some r := by rw [← hrcg]; exact hf
      unfold f_X9_isGood_5b at hf
      refine lv_iload hx hb dX9_isGood_5 (lv_at hl 4 rfl) ?_
      refine lv_iconst (v := 2) hx hb dX9_isGood_7 (by decide) ?_
      refine lv_icmp_ge (tgt := 59) hx hb dX9_isGood_8 (by decide) (fun c1 => ?_) (fun c1 => ?_)
      · have hf := (if_pos c1).symm.trans hf
        refine lv_iload_n hx hb dX9_isGood_59 rfl (lv_at hl 3 rfl) ?_
        refine lv_if_eq (tgt := 89) hx hb dX9_isGood_60 (by decide) (fun c2 => ?_) (fun c2 => ?_)
        · have hf := (if_pos c2).symm.trans hf
          refine lv_iconst (v := 0) hx hb dX9_isGood_89 (by decide) ?_
          exact W.zret hx hb hr (zt_bn (by decide)).1 (fun t ht hW => ⟨⟨_, _, rfl, ⟨Option.some.inj hf, rfl⟩, zt_go hE hP hS zt_id ht hW⟩, hS.F ht⟩) hS.2.2 dX9_isGood_90
        · have hf := (if_neg c2).symm.trans hf
          refine lv_aload_n hx hb dX9_isGood_63 rfl (lv_at hl 0 rfl) ?_
          refine va_get (D := zt_D G) (ci := 8) (v := .int (σ 94 1)) (C := RX9) (T := TX9) (N := 37) hx hb hts inX9 hown hK hP 94 (zt_a8 (rfl : zt_kd 94 = 8)) rfl 1 (by decide) fl248 (fun _ h9 => h9) rfl dX9_isGood_64 ?_
          refine lv_aload_n hx hb dX9_isGood_67 rfl (lv_at hl 0 rfl) ?_
          refine va_get (D := zt_D G) (ci := 8) (v := .ref (zt_ad G 101)) (C := RX9) (T := TX9) (N := 37) hx hb hts inX9 hown hK hP 94 (zt_a8 (rfl : zt_kd 94 = 8)) rfl 9 (by decide) fl33 (fun _ h9 => h9) rfl dX9_isGood_68 ?_
          refine lv_iload_n hx hb dX9_isGood_71 rfl (lv_at hl 1 rfl) ?_
          obtain ⟨g3, hf⟩ := zt_gd_some hf
          refine va_iald hx hb hK hP 101 0 zt_a_101 rfl (zt_gI_in g3) dX9_isGood_72 ?_
          refine lv_aload_n hx hb dX9_isGood_73 rfl (lv_at hl 0 rfl) ?_
          refine va_get (D := zt_D G) (ci := 8) (v := .ref (zt_ad G 102)) (C := RX9) (T := TX9) (N := 37) hx hb hts inX9 hown hK hP 94 (zt_a8 (rfl : zt_kd 94 = 8)) rfl 10 (by decide) fl36 (fun _ h9 => h9) rfl dX9_isGood_74 ?_
          refine lv_iload_n hx hb dX9_isGood_77 rfl (lv_at hl 1 rfl) ?_
          obtain ⟨g4, hf⟩ := zt_gd_some hf
          refine va_iald hx hb hK hP 102 0 zt_a_102 rfl (zt_gI_in g4) dX9_isGood_78 ?_
          obtain ⟨v5, hvv5, hf⟩ := zt_bd_some hf
          refine va_calli (va_runS (As := [.int (σ 94 1), .int (σ 101 u1.toNatClampNeg), .int (σ 102 u1.toNatClampNeg)]) (rest := []) ⟨hx, hb, hml, hown, hts⟩ (m_X9_in l G (σ := σ) hvv5) (va_cwS 3 hts gX9_isGood_X9_in rfl rfl rfl zh_X9_in ⟨Nat.le_of_ble_eq_true rfl, Nat.le_of_ble_eq_true rfl⟩) ⟨zt_blind, fun U hU hW => ⟨rfl, zt_go hE hP hS zt_id hU hW⟩⟩ rfl rfl hl.1 rfl (lv_room (Nat.le_of_ble_eq_true rfl)) dX9_isGood_79 ⟨Nat.zero_le _, Nat.zero_le _⟩) hS (fun _ _ h => h) (fun _ h => h) (fun r u t H locs ht hvm hw hB _ _ hS => ?_)
          rw [hw.1]; have hB : zt_B G u t := hB; rw [hw.2] at hB; have hP := zt_B.P hB ht
          refine lv_if_eq (tgt := 89) hx hb dX9_isGood_82 (by decide) (fun c7 => ?_) (fun c7 => ?_)
          · have hf := (if_pos c7).symm.trans hf
            refine lv_iconst (v := 0) hx hb dX9_isGood_89 (by decide) ?_
            exact W.zret hx hb hr (zt_bn (by decide)).1 (fun t ht hW => ⟨⟨_, _, rfl, ⟨Option.some.inj hf, rfl⟩, zt_go hE hP hS zt_id ht hW⟩, hS.F ht⟩) hS.2.2 dX9_isGood_90
          · have hf := (if_neg c7).symm.trans hf
            refine lv_iconst (v := 1) hx hb dX9_isGood_85 (by decide) ?_
            refine lv_goto (tgt := 90) hx hb dX9_isGood_86 (by decide) ?_
            exact W.zret hx hb hr (zt_bn (by decide)).1 (fun t ht hW => ⟨⟨_, _, rfl, ⟨Option.some.inj hf, rfl⟩, zt_go hE hP hS zt_id ht hW⟩, hS.F ht⟩) hS.2.2 dX9_isGood_90
      · have hf := (if_neg c1).symm.trans hf
        refine lv_iload_n hx hb dX9_isGood_11 rfl (lv_at hl 3 rfl) ?_
        refine lv_aload_n hx hb dX9_isGood_12 rfl (lv_at hl 0 rfl) ?_
        refine va_get (D := zt_D G) (ci := 8) (v := .ref (zt_ad G 100)) (C := RX9) (T := TX9) (N := 37) hx hb hts inX9 hown hK hP 94 (zt_a8 (rfl : zt_kd 94 = 8)) rfl 8 (by decide) fl30 (fun _ h9 => h9) rfl dX9_isGood_13 ?_
        refine lv_iconst (v := 2) hx hb dX9_isGood_16 (by decide) ?_
        refine lv_iload_n hx hb dX9_isGood_17 rfl (lv_at hl 1 rfl) ?_
        refine lv_imul hx hb dX9_isGood_18 ?_
        refine lv_iload hx hb dX9_isGood_19 (lv_at hl 4 rfl) ?_
        refine lv_iadd hx hb dX9_isGood_21 ?_
        obtain ⟨g8, hf⟩ := zt_gd_some hf
        refine va_iald hx hb hK hP 100 0 zt_a_100 rfl (zt_gI_in g8) dX9_isGood_22 ?_
        refine lv_iconst (v := (-1)) hx hb dX9_isGood_23 (by decide) ?_
        refine lv_icmp_eq (tgt := 50) hx hb dX9_isGood_24 (by decide) (fun c9 => ?_) (fun c9 => ?_)
        · have hf := (if_pos c9).symm.trans hf
          exact B50 rc5 hrc5 u3 u1 u2 u4 _ _ _ hf hP hS (lv_sub hl [0, 1, 2, 4] rfl)
        · have hf := (if_neg c9).symm.trans hf
          refine lv_aload_n hx hb dX9_isGood_27 rfl (lv_at hl 0 rfl) ?_
          refine lv_aload_n hx hb dX9_isGood_28 rfl (lv_at hl 0 rfl) ?_
          refine va_get (D := zt_D G) (ci := 8) (v := .ref (zt_ad G 100)) (C := RX9) (T := TX9) (N := 37) hx hb hts inX9 hown hK hP 94 (zt_a8 (rfl : zt_kd 94 = 8)) rfl 8 (by decide) fl30 (fun _ h9 => h9) rfl dX9_isGood_29 ?_
          refine lv_iconst (v := 2) hx hb dX9_isGood_32 (by decide) ?_
          refine lv_iload_n hx hb dX9_isGood_33 rfl (lv_at hl 1 rfl) ?_
          refine lv_imul hx hb dX9_isGood_34 ?_
          refine lv_iload hx hb dX9_isGood_35 (lv_at hl 4 rfl) ?_
          refine lv_iadd hx hb dX9_isGood_37 ?_
          obtain ⟨g10, hf⟩ := zt_gd_some hf
          refine va_iald hx hb hK hP 100 0 zt_a_100 rfl (zt_gI_in g10) dX9_isGood_38 ?_
          obtain ⟨v11, hvv11, hf⟩ := zt_bd_some hf
          refine va_calli (va_runV (As := [.int (σ 100 ((2 * u1) + u4).toNatClampNeg)]) (rest := [.int u3]) ⟨hx, hb, hml, hown, hts⟩ (m_X9_code l G (σ := σ) hvv11) (cwV 1 hts gX9_isGood_X9_code rfl rfl rfl zh_X9_code ⟨Nat.le_of_ble_eq_true rfl, Nat.le_of_ble_eq_true rfl⟩) ⟨zt_blind, va_recv hK hP (ci := 8) (q0 := 94) rfl (zt_a8 (rfl : zt_kd 94 = 8)), fun U hU hW => ⟨rfl, zt_go hE hP hS zt_id hU hW⟩⟩ rfl rfl hl.1 rfl (lv_room (Nat.le_of_ble_eq_true rfl)) dX9_isGood_39 ⟨Nat.zero_le _, Nat.zero_le _⟩) hS (fun _ _ h => h) (fun _ h => h) (fun r u t H locs ht hvm hw hB _ _ hS => ?_)
          rw [hw.1]; have hB : zt_B G u t := hB; rw [hw.2] at hB; have hP := zt_B.P hB ht
          refine lv_iload_n hx hb dX9_isGood_42 rfl (lv_at hl 2 rfl) ?_
          refine lv_icmp_ne (tgt := 50) hx hb dX9_isGood_43 (by decide) (fun c13 => ?_) (fun c13 => ?_)
          · have hf := (if_neg c13).symm.trans hf
            exact B50 rc5 hrc5 u3 u1 u2 u4 _ _ _ hf hP hS (lv_sub hl [0, 1, 2, 4] rfl)
          · have hf := (if_pos c13).symm.trans hf
            refine lv_iconst (v := 1) hx hb dX9_isGood_46 (by decide) ?_
            refine lv_goto (tgt := 51) hx hb dX9_isGood_47 (by decide) ?_
            exact B51 rc5 hrc5 1 u3 u1 u2 u4 _ _ _ hf hP hS (lv_sub hl [0, 1, 2, 4] rfl)
  unfold f_X9_isGood at hf
  refine lv_iconst (v := 0) hx hb dX9_isGood_0 (by decide) ?_
  refine lv_istore_n (lv' := [(3, .int 0), (0, .ref (zt_ad G 94)), (1, .int x1), (2, .int x2)]) hx hb dX9_isGood_1 rfl hl (by decide) rfl (fun ls hl => ?_)
  refine lv_iconst (v := 0) hx hb dX9_isGood_2 (by decide) ?_
  refine lv_istore (lv' := [(4, .int 0), (3, .int 0), (0, .ref (zt_ad G 94)), (1, .int x1), (2, .int x2)]) hx hb dX9_isGood_3 hl (by decide) rfl (fun ls hl => ?_)
  exact B5 zt_FU x1 x2 0 0 _ _ _ hf hP hS (lv_sub hl [2, 3, 4, 1, 0] rfl)

theorem zh_X9_takes : yX9_takes.cls = RX9 ∧ yX9_takes.cls ≠ "java/lang/invoke/MethodHandle" ∧ yX9_takes.cls ≠ "java/lang/invoke/VarHandle" ∧ (parseMethodDescriptor yX9_takes.desc).map (fun d => d.parameters.length) = some 1 := by decide +kernel
set_option maxHeartbeats 4000000 in
set_option maxRecDepth 100000 in
theorem m_X9_takes (l : Launch) (G : zt_G) {σ : zt_St} {x1 : Int32} {σ1 : zt_St} (hf : f_X9_takes σ x1 = some σ1) : zt_Mv l G yX9_takes wsX9_takes 0 0 [.ref (zt_ad G 94), .int x1] σ σ1 := by
  refine Met.ofW (cc := cX9_takes) (maxL := 2) (ret := none) (by decide) rfl ?_
  intro p e s m args below meth c s₁ B hml hv
  obtain ⟨rfl, hBB⟩ := hv
  have hE := zt_B.env hBB; have hK := hE.2.1; have hP := hBB.2.1
  have hx := B.exec; have hb := B.bytes; have hr := B.returns; have hts := atoms_spec (ws := wsX9_takes) B.pre
  have hown : s.vm.findClass RX9 = some m.cls := findClass_of_methodNamed B.named
  have hlocks := B.notSynchronized
  have hS : va_S (zt_A G) s.heap s.heap [] := va_S.rf
  have hl := lv_entry ([.ref (zt_ad G 94), .int x1]) (n := 2) (Nat.le_of_ble_eq_true rfl)
  rw [lg_entry_eq]
  generalize (lg_sl ([.ref (zt_ad G 94), .int x1]) ++ List.replicate (2 - (lg_sl ([.ref (zt_ad G 94), .int x1])).length) Slot.unset).toArray = ls at hl ⊢
  have hl : lv_has ls 2 [(0, .ref (zt_ad G 94)), (1, .int x1)] := hl
  show W p l e (zt_R 0 0) s m ([.ref (zt_ad G 94), .int x1] : List Value).toArray below meth c s.heap [] 0 0 (MQ below (zt_Cv G σ1) ([.ref (zt_ad G 94), .int x1] : List Value).toArray s 0 0 (zt_A G)) (F0 m 0 ls [])
  have fl84 := hts (.fieldLink RX9 84 "ZoneTreeModel" "keptNumber" "[I") (List.mem_cons_of_mem _ (List.mem_append_left _ (List.mem_of_getElem? (i := 0) rfl)))
  have fl87 := hts (.fieldLink RX9 87 "ZoneTreeModel" "keptTo" "[I") (List.mem_cons_of_mem _ (List.mem_append_left _ (List.mem_of_getElem? (i := 2) rfl)))
  have fl190 := hts (.fieldLink RX9 190 "ZoneTreeModel" "ends" "I") (List.mem_cons_of_mem _ (List.mem_append_left _ (List.mem_of_getElem? (i := 3) rfl)))
  have fl193 := hts (.fieldLink RX9 193 "ZoneTreeModel" "its" "I") (List.mem_cons_of_mem _ (List.mem_append_left _ (List.mem_of_getElem? (i := 1) rfl)))
  have fl199 := hts (.fieldLink RX9 199 "ZoneTreeModel" "lasts" "I") (List.mem_cons_of_mem _ (List.mem_append_left _ (List.mem_of_getElem? (i := 4) rfl)))
  have inX9 : ∀ w ∈ wsX90, w ∈ wsX9_takes := fun w h => (List.mem_cons_of_mem _ (List.mem_append_right _ h))
  unfold f_X9_takes at hf
  refine lv_aload_n hx hb dX9_takes_0 rfl (lv_at hl 0 rfl) ?_
  refine lv_aload_n hx hb dX9_takes_1 rfl (lv_at hl 0 rfl) ?_
  refine va_get (D := zt_D G) (ci := 8) (v := .ref (zt_ad G 117)) (C := RX9) (T := TX9) (N := 37) hx hb hts inX9 hown hK hP 94 (zt_a8 (rfl : zt_kd 94 = 8)) rfl 28 (by decide) fl84 (fun _ h9 => h9) rfl dX9_takes_2 ?_
  refine lv_iload_n hx hb dX9_takes_5 rfl (lv_at hl 1 rfl) ?_
  obtain ⟨g1, hf⟩ := zt_gd_some hf
  refine va_iald hx hb hK hP 117 0 zt_a_117 rfl (zt_gI_in g1) dX9_takes_6 ?_
  obtain ⟨σ2, hσ2, hf⟩ := zt_lt_some hf
  refine va_put (D := zt_D G) (ci := 8) (v := .int (σ 117 x1.toNatClampNeg)) (ty := .int) (C := RX9) (T := TX9) (N := 37) hx hb hts inX9 tyX9 tyX9_ok nmX9 hown hK hP (zt_apart hE.1) hS 94 (zt_a8 (rfl : zt_kd 94 = 8)) rfl 32 (by decide) fl193 (fun _ h9 => h9) rfl (tyX9_ok 32 (by decide)) rfl rfl (Nat.le_of_ble_eq_true rfl) dX9_takes_7 (fun H locs hP _ hS => ?_)
  rw [zt_p8_32 (rfl : zt_kd 94 = 8), ← hσ2] at hP
  refine lv_aload_n hx hb dX9_takes_10 rfl (lv_at hl 0 rfl) ?_
  refine lv_aload_n hx hb dX9_takes_11 rfl (lv_at hl 0 rfl) ?_
  refine va_get (D := zt_D G) (ci := 8) (v := .ref (zt_ad G 118)) (C := RX9) (T := TX9) (N := 37) hx hb hts inX9 hown hK hP 94 (zt_a8 (rfl : zt_kd 94 = 8)) rfl 29 (by decide) fl87 (fun _ h9 => h9) rfl dX9_takes_12 ?_
  refine lv_iload_n hx hb dX9_takes_15 rfl (lv_at hl 1 rfl) ?_
  obtain ⟨g3, hf⟩ := zt_gd_some hf
  refine va_iald hx hb hK hP 118 0 zt_a_118 rfl (zt_gI_in g3) dX9_takes_16 ?_
  obtain ⟨σ4, hσ4, hf⟩ := zt_lt_some hf
  refine va_put (D := zt_D G) (ci := 8) (v := .int (σ2 118 x1.toNatClampNeg)) (ty := .int) (C := RX9) (T := TX9) (N := 37) hx hb hts inX9 tyX9 tyX9_ok nmX9 hown hK hP (zt_apart hE.1) hS 94 (zt_a8 (rfl : zt_kd 94 = 8)) rfl 33 (by decide) fl190 (fun _ h9 => h9) rfl (tyX9_ok 33 (by decide)) rfl rfl (Nat.le_of_ble_eq_true rfl) dX9_takes_17 (fun H locs hP _ hS => ?_)
  rw [zt_p8_33 (rfl : zt_kd 94 = 8), ← hσ4] at hP
  refine lv_aload_n hx hb dX9_takes_20 rfl (lv_at hl 0 rfl) ?_
  refine lv_iconst (v := 0) hx hb dX9_takes_21 (by decide) ?_
  obtain ⟨σ5, hσ5, hf⟩ := zt_lt_some hf
  refine va_put (D := zt_D G) (ci := 8) (v := .int 0) (ty := .int) (C := RX9) (T := TX9) (N := 37) hx hb hts inX9 tyX9 tyX9_ok nmX9 hown hK hP (zt_apart hE.1) hS 94 (zt_a8 (rfl : zt_kd 94 = 8)) rfl 34 (by decide) fl199 (fun _ h9 => h9) rfl (tyX9_ok 34 (by decide)) rfl rfl (Nat.le_of_ble_eq_true rfl) dX9_takes_22 (fun H locs hP _ hS => ?_)
  rw [zt_p8_34 (rfl : zt_kd 94 = 8), ← hσ5] at hP
  exact W.vret hx hb hr (fun t ht hW => ⟨⟨_, rfl, (Option.some.inj hf), zt_go hE hP hS zt_id ht hW⟩, hS.F ht⟩) hS.2.2 dX9_takes_25

theorem zh_X9_fails : yX9_fails.cls = RX9 ∧ yX9_fails.cls ≠ "java/lang/invoke/MethodHandle" ∧ yX9_fails.cls ≠ "java/lang/invoke/VarHandle" ∧ (parseMethodDescriptor yX9_fails.desc).map (fun d => d.parameters.length) = some 3 := by decide +kernel
set_option maxHeartbeats 4000000 in
set_option maxRecDepth 100000 in
theorem m_X9_fails (l : Launch) (G : zt_G) {σ : zt_St} {x1 : Int32} {x2 : Int32} {x3 : Int32} {r : Int32} {σ1 : zt_St} (hf : f_X9_fails σ x1 x2 x3 = some (r, σ1)) : zt_Mi l G yX9_fails wsX9_fails 1 25 [.ref (zt_ad G 94), .int x1, .int x2, .int x3] σ r σ1 := by
  refine Met.ofW (cc := cX9_fails) (maxL := 4) (ret := (some .int)) (by decide) rfl ?_
  intro p e s m args below meth c s₁ B hml hv
  obtain ⟨rfl, hBB⟩ := hv
  have hE := zt_B.env hBB; have hK := hE.2.1; have hP := hBB.2.1
  have hx := B.exec; have hb := B.bytes; have hr := B.returns; have hts := atoms_spec (ws := wsX9_fails) B.pre
  have hown : s.vm.findClass RX9 = some m.cls := findClass_of_methodNamed B.named
  have hlocks := B.notSynchronized
  have hS : va_S (zt_A G) s.heap s.heap [] := va_S.rf
  have hl := lv_entry ([.ref (zt_ad G 94), .int x1, .int x2, .int x3]) (n := 4) (Nat.le_of_ble_eq_true rfl)
  rw [lg_entry_eq]
  generalize (lg_sl ([.ref (zt_ad G 94), .int x1, .int x2, .int x3]) ++ List.replicate (4 - (lg_sl ([.ref (zt_ad G 94), .int x1, .int x2, .int x3])).length) Slot.unset).toArray = ls at hl ⊢
  have hl : lv_has ls 4 [(0, .ref (zt_ad G 94)), (1, .int x1), (2, .int x2), (3, .int x3)] := hl
  show W p l e (zt_R 1 25) s m ([.ref (zt_ad G 94), .int x1, .int x2, .int x3] : List Value).toArray below meth c s.heap [] 0 0 (MQ below (zt_Ci G r σ1) ([.ref (zt_ad G 94), .int x1, .int x2, .int x3] : List Value).toArray s 0 0 (zt_A G)) (F0 m 0 ls [])
  unfold f_X9_fails at hf
  refine lv_iload_n hx hb dX9_fails_0 rfl (lv_at hl 3 rfl) ?_
  refine lv_if_eq (tgt := 13) hx hb dX9_fails_1 (by decide) (fun c1 => ?_) (fun c1 => ?_)
  · have hf := (if_pos c1).symm.trans hf
    refine lv_bipush (v := 6) hx hb dX9_fails_13 (by decide +kernel) ?_
    exact W.iret hx hb hr (fun t ht hW => ⟨⟨_, _, rfl, (Prod.mk.inj (Option.some.inj hf)), zt_go hE hP hS zt_id ht hW⟩, hS.F ht⟩) hS.2.2 dX9_fails_15
  · have hf := (if_neg c1).symm.trans hf
    refine lv_aload_n hx hb dX9_fails_4 rfl (lv_at hl 0 rfl) ?_
    refine lv_iconst (v := (-1)) hx hb dX9_fails_5 (by decide) ?_
    refine lv_iconst (v := (-1)) hx hb dX9_fails_6 (by decide) ?_
    refine lv_iconst (v := 0) hx hb dX9_fails_7 (by decide) ?_
    refine lv_iload_n hx hb dX9_fails_8 rfl (lv_at hl 1 rfl) ?_
    refine lv_iload_n hx hb dX9_fails_9 rfl (lv_at hl 2 rfl) ?_
    obtain ⟨σ3, hvv2, hf⟩ := zt_bd_some hf
    refine va_callv (va_runV (As := [.int (-1), .int (-1), .int 0, .int x1, .int x2]) (rest := []) ⟨hx, hb, hml, hown, hts⟩ (m_X9_tell l G (σ := σ) hvv2) (cwV 5 hts gX9_fails_X9_tell rfl rfl rfl zh_X9_tell ⟨Nat.le_of_ble_eq_true rfl, Nat.le_of_ble_eq_true rfl⟩) ⟨zt_blind, va_recv hK hP (ci := 8) (q0 := 94) rfl (zt_a8 (rfl : zt_kd 94 = 8)), fun U hU hW => ⟨rfl, zt_go hE hP hS zt_id hU hW⟩⟩ rfl rfl hl.1 rfl (lv_room (Nat.le_of_ble_eq_true rfl)) dX9_fails_10 ⟨Nat.zero_le _, Nat.zero_le _⟩) hS (fun _ _ h => h) (fun _ h => h) (fun u t H locs ht hvm hw hB _ _ hS => ?_)
    have hB : zt_B G u t := hB; rw [hw] at hB; have hP := zt_B.P hB ht
    refine lv_bipush (v := 6) hx hb dX9_fails_13 (by decide +kernel) ?_
    exact W.iret hx hb hr (fun t ht hW => ⟨⟨_, _, rfl, (Prod.mk.inj (Option.some.inj hf)), zt_go hE hP hS zt_id ht hW⟩, hS.F ht⟩) hS.2.2 dX9_fails_15

theorem zh_X9_resolves : yX9_resolves.cls = RX9 ∧ yX9_resolves.cls ≠ "java/lang/invoke/MethodHandle" ∧ yX9_resolves.cls ≠ "java/lang/invoke/VarHandle" ∧ (parseMethodDescriptor yX9_resolves.desc).map (fun d => d.parameters.length) = some 4 := by decide +kernel
set_option maxHeartbeats 4000000 in
set_option maxRecDepth 100000 in
theorem m_X9_resolves (l : Launch) (G : zt_G) {σ : zt_St} {x1 : Int32} {x2 : Int32} {x3 : Int32} {x4 : Int32} {r : Int32} {σ1 : zt_St} (hf : f_X9_resolves σ x1 x2 x3 x4 = some (r, σ1)) : zt_Mi l G yX9_resolves wsX9_resolves 6 147 [.ref (zt_ad G 94), .int x1, .int x2, .int x3, .int x4] σ r σ1 := by
  refine Met.ofW (cc := cX9_resolves) (maxL := 17) (ret := (some .int)) (by decide) rfl ?_
  intro p e s m args below meth c s₁ B hml hv
  obtain ⟨rfl, hBB⟩ := hv
  have hE := zt_B.env hBB; have hK := hE.2.1; have hP := hBB.2.1
  have hx := B.exec; have hb := B.bytes; have hr := B.returns; have hts := atoms_spec (ws := wsX9_resolves) B.pre
  have hown : s.vm.findClass RX9 = some m.cls := findClass_of_methodNamed B.named
  have hlocks := B.notSynchronized
  have hS : va_S (zt_A G) s.heap s.heap [] := va_S.rf
  have hl := lv_entry ([.ref (zt_ad G 94), .int x1, .int x2, .int x3, .int x4]) (n := 17) (Nat.le_of_ble_eq_true rfl)
  rw [lg_entry_eq]
  generalize (lg_sl ([.ref (zt_ad G 94), .int x1, .int x2, .int x3, .int x4]) ++ List.replicate (17 - (lg_sl ([.ref (zt_ad G 94), .int x1, .int x2, .int x3, .int x4])).length) Slot.unset).toArray = ls at hl ⊢
  have hl : lv_has ls 17 [(0, .ref (zt_ad G 94)), (1, .int x1), (2, .int x2), (3, .int x3), (4, .int x4)] := hl
  show W p l e (zt_R 6 147) s m ([.ref (zt_ad G 94), .int x1, .int x2, .int x3, .int x4] : List Value).toArray below meth c s.heap [] 0 0 (MQ below (zt_Ci G r σ1) ([.ref (zt_ad G 94), .int x1, .int x2, .int x3, .int x4] : List Value).toArray s 0 0 (zt_A G)) (F0 m 0 ls [])
  have fl23 := hts (.fieldLink RX9 23 "ZoneTreeModel" "copied" "[I") (List.mem_cons_of_mem _ (List.mem_append_left _ (List.mem_append_left _ (List.mem_of_getElem? (i := 8) rfl))))
  have fl26 := hts (.fieldLink RX9 26 "ZoneTreeModel" "dead" "[Z") (List.mem_cons_of_mem _ (List.mem_append_left _ (List.mem_append_left _ (List.mem_of_getElem? (i := 7) rfl))))
  have fl39 := hts (.fieldLink RX9 39 "ZoneTreeModel" "anchor" "I") (List.mem_cons_of_mem _ (List.mem_append_left _ (List.mem_append_left _ (List.mem_of_getElem? (i := 6) rfl))))
  have fl51 := hts (.fieldLink RX9 51 "ZoneTreeModel" "number" "[I") (List.mem_cons_of_mem _ (List.mem_append_left _ (List.mem_append_left _ (List.mem_of_getElem? (i := 11) rfl))))
  have fl72 := hts (.fieldLink RX9 72 "ZoneTreeModel" "until" "[I") (List.mem_cons_of_mem _ (List.mem_append_left _ (List.mem_append_left _ (List.mem_of_getElem? (i := 12) rfl))))
  have fl81 := hts (.fieldLink RX9 81 "ZoneTreeModel" "keptKind" "[I") (List.mem_cons_of_mem _ (List.mem_append_left _ (List.mem_append_left _ (List.mem_of_getElem? (i := 4) rfl))))
  have fl90 := hts (.fieldLink RX9 90 "ZoneTreeModel" "keptLife" "[I") (List.mem_cons_of_mem _ (List.mem_append_left _ (List.mem_append_left _ (List.mem_of_getElem? (i := 3) rfl))))
  have fl93 := hts (.fieldLink RX9 93 "ZoneTreeModel" "keptAt" "[I") (List.mem_cons_of_mem _ (List.mem_append_left _ (List.mem_append_left _ (List.mem_of_getElem? (i := 2) rfl))))
  have fl190 := hts (.fieldLink RX9 190 "ZoneTreeModel" "ends" "I") (List.mem_cons_of_mem _ (List.mem_append_left _ (List.mem_append_left _ (List.mem_of_getElem? (i := 9) rfl))))
  have fl193 := hts (.fieldLink RX9 193 "ZoneTreeModel" "its" "I") (List.mem_cons_of_mem _ (List.mem_append_left _ (List.mem_append_left _ (List.mem_of_getElem? (i := 10) rfl))))
  have fl199 := hts (.fieldLink RX9 199 "ZoneTreeModel" "lasts" "I") (List.mem_cons_of_mem _ (List.mem_append_left _ (List.mem_append_left _ (List.mem_of_getElem? (i := 5) rfl))))
  have fl248 := hts (.fieldLink RX9 248 "ZoneTreeModel" "now" "I") (List.mem_cons_of_mem _ (List.mem_append_left _ (List.mem_append_left _ (List.mem_of_getElem? (i := 1) rfl))))
  have fl254 := hts (.fieldLink RX9 254 "ZoneTreeModel" "trusted" "I") (List.mem_cons_of_mem _ (List.mem_append_left _ (List.mem_append_left _ (List.mem_of_getElem? (i := 0) rfl))))
  have inX9 : ∀ w ∈ wsX90, w ∈ wsX9_resolves := fun w h => (List.mem_cons_of_mem _ (List.mem_append_right _ h))
  have B570 : ∀ (rc28 : zt_St → Int32 → Int32 → Int32 → Int32 → Int32 → Int32 → Int32 → Int32 → Int32 → Int32 → Option (Int32 × zt_St)) (hrc28 : ∀ (σ : zt_St) (u2 : Int32) (u3 : Int32) (u4 : Int32) (u5 : Int32) (u6 : Int32) (u7 : Int32) (u8 : Int32) (u9 : Int32) (u10 : Int32) (u11 : Int32) (H : Heap) (locs : List Loc) (ls : Array Slot), rc28 σ u2 u3 u4 u5 u6 u7 u8 u9 u10 u11 = some (r, σ1) → va_P (zt_D G) vwCl (zt_ww G σ) H → va_S (zt_A G) s.heap H locs → lv_has ls 17 [(0, .ref (zt_ad G 94)), (2, .int u2), (3, .int u3), (4, .int u4), (5, .int u5), (6, .int u6), (7, .int u7), (8, .int u8), (9, .int u9), (10, .int u10), (11, .int u11)] → W p l e (zt_R 6 147) s m ([.ref (zt_ad G 94), .int x1, .int x2, .int x3, .int x4] : List Value).toArray below meth c H locs 0 0 (MQ below (zt_Ci G r σ1) ([.ref (zt_ad G 94), .int x1, .int x2, .int x3, .int x4] : List Value).toArray s 0 0 (zt_A G)) (F0 m 28 ls [])), ∀ (σ : zt_St) (u2 : Int32) (u3 : Int32) (u4 : Int32) (u5 : Int32) (u6 : Int32) (u7 : Int32) (u8 : Int32) (u9 : Int32) (u10 : Int32) (u11 : Int32) (H : Heap) (locs : List Loc) (ls : Array Slot), f_X9_resolves_570 rc28 σ u2 u3 u4 u5 u6 u7 u8 u9 u10 u11 = some (r, σ1) → va_P (zt_D G) vwCl (zt_ww G σ) H → va_S (zt_A G) s.heap H locs → lv_has ls 17 [(0, .ref (zt_ad G 94)), (2, .int u2), (3, .int u3), (4, .int u4), (5, .int u5), (6, .int u6), (7, .int u7), (8, .int u8), (9, .int u9), (10, .int u10), (11, .int u11)] → W p l e (zt_R 6 147) s m ([.ref (zt_ad G 94), .int x1, .int x2, .int x3, .int x4] : List Value).toArray below meth c H locs 0 0 (MQ below (zt_Ci G r σ1) ([.ref (zt_ad G 94), .int x1, .int x2, .int x3, .int x4] : List Value).toArray s 0 0 (zt_A G)) (F0 m 570 ls []) := by
    intro rc28 hrc28 σ u2 u3 u4 u5 u6 u7 u8 u9 u10 u11 H locs ls hf hP hS hl
    unfold f_X9_resolves_570 at hf
    refine lv_goto (tgt := 28) hx hb dX9_resolves_570 (by decide) ?_
    exact hrc28 σ u2 u3 u4 u5 u6 u7 u8 u9 u10 u11 _ _ _ hf hP hS (lv_sub hl [0, 1, 2, 3, 4, 5, 6, 7, 8, 9, 10] rfl)
  have B533 : ∀ (σ : zt_St) (y0 : Int32) (y1 : Int32) (y2 : Int32) (u6 : Int32) (u9 : Int32) (u13 : Int32) (H : Heap) (locs : List Loc) (ls : Array Slot), f_X9_resolves_533 σ y0 y1 y2 u6 u9 u13 = some (r, σ1) → va_P (zt_D G) vwCl (zt_ww G σ) H → va_S (zt_A G) s.heap H locs → lv_has ls 17 [(6, .int u6), (9, .int u9), (13, .int u13)] → W p l e (zt_R 6 147) s m ([.ref (zt_ad G 94), .int x1, .int x2, .int x3, .int x4] : List Value).toArray below meth c H locs 0 0 (MQ below (zt_Ci G r σ1) ([.ref (zt_ad G 94), .int x1, .int x2, .int x3, .int x4] : List Value).toArray s 0 0 (zt_A G)) (F0 m 533 ls [.int y0, .int y1, .int y2, .ref (zt_ad G 94)]) := by
    intro σ y0 y1 y2 u6 u9 u13 H locs ls hf hP hS hl
    unfold f_X9_resolves_533 at hf
    refine lv_iload hx hb dX9_resolves_533 (lv_at hl 0 rfl) ?_
    refine lv_iload hx hb dX9_resolves_535 (lv_at hl 1 rfl) ?_
    obtain ⟨σ79, hvv78, hf⟩ := zt_bd_some hf
    refine va_callv (va_runV (As := [.int y2, .int y1, .int y0, .int u6, .int u9]) (rest := []) ⟨hx, hb, hml, hown, hts⟩ (m_X9_tell l G (σ := σ) hvv78) (cwV 5 hts gX9_resolves_X9_tell rfl rfl rfl zh_X9_tell ⟨Nat.le_of_ble_eq_true rfl, Nat.le_of_ble_eq_true rfl⟩) ⟨zt_blind, va_recv hK hP (ci := 8) (q0 := 94) rfl (zt_a8 (rfl : zt_kd 94 = 8)), fun U hU hW => ⟨rfl, zt_go hE hP hS zt_id hU hW⟩⟩ rfl rfl hl.1 rfl (lv_room (Nat.le_of_ble_eq_true rfl)) dX9_resolves_537 ⟨Nat.zero_le _, Nat.zero_le _⟩) hS (fun _ _ h => h) (fun _ h => h) (fun u t H locs ht hvm hw hB _ _ hS => ?_)
    have hB : zt_B G u t := hB; rw [hw] at hB; have hP := zt_B.P hB ht
    refine lv_iload hx hb dX9_resolves_540 (lv_at hl 2 rfl) ?_
    exact W.iret hx hb hr (fun t ht hW => ⟨⟨_, _, rfl, (Prod.mk.inj (Option.some.inj hf)), zt_go hE hP hS zt_id ht hW⟩, hS.F ht⟩) hS.2.2 dX9_resolves_542
  have B517 : ∀ (σ : zt_St) (y0 : Int32) (u6 : Int32) (u8 : Int32) (u9 : Int32) (u13 : Int32) (H : Heap) (locs : List Loc) (ls : Array Slot), f_X9_resolves_517 σ y0 u6 u8 u9 u13 = some (r, σ1) → va_P (zt_D G) vwCl (zt_ww G σ) H → va_S (zt_A G) s.heap H locs → lv_has ls 17 [(0, .ref (zt_ad G 94)), (6, .int u6), (8, .int u8), (9, .int u9), (13, .int u13)] → W p l e (zt_R 6 147) s m ([.ref (zt_ad G 94), .int x1, .int x2, .int x3, .int x4] : List Value).toArray below meth c H locs 0 0 (MQ below (zt_Ci G r σ1) ([.ref (zt_ad G 94), .int x1, .int x2, .int x3, .int x4] : List Value).toArray s 0 0 (zt_A G)) (F0 m 517 ls [.int y0, .ref (zt_ad G 94)]) := by
    intro σ y0 u6 u8 u9 u13 H locs ls hf hP hS hl
    unfold f_X9_resolves_517 at hf
    refine lv_aload_n hx hb dX9_resolves_517 rfl (lv_at hl 0 rfl) ?_
    refine va_get (D := zt_D G) (ci := 8) (v := .int (σ 94 33)) (C := RX9) (T := TX9) (N := 37) hx hb hts inX9 hown hK hP 94 (zt_a8 (rfl : zt_kd 94 = 8)) rfl 33 (by decide) fl190 (fun _ h9 => h9) rfl dX9_resolves_518 ?_
    refine lv_iload hx hb dX9_resolves_521 (lv_at hl 3 rfl) ?_
    refine lv_iconst (v := 1) hx hb dX9_resolves_523 (by decide) ?_
    refine lv_icmp_ne (tgt := 531) hx hb dX9_resolves_524 (by decide) (fun c68 => ?_) (fun c68 => ?_)
    · have hf := (if_neg c68).symm.trans hf
      refine lv_iload hx hb dX9_resolves_531 (lv_at hl 2 rfl) ?_
      exact B533 σ u8 (σ 94 33) y0 u6 u9 u13 _ _ _ hf hP hS (lv_sub hl [1, 3, 4] rfl)
    · have hf := (if_pos c68).symm.trans hf
      refine lv_iconst (v := 0) hx hb dX9_resolves_527 (by decide) ?_
      refine lv_goto (tgt := 533) hx hb dX9_resolves_528 (by decide) ?_
      exact B533 σ 0 (σ 94 33) y0 u6 u9 u13 _ _ _ hf hP hS (lv_sub hl [1, 3, 4] rfl)
  have B474 : ∀ (rc28 : zt_St → Int32 → Int32 → Int32 → Int32 → Int32 → Int32 → Int32 → Int32 → Int32 → Int32 → Option (Int32 × zt_St)) (hrc28 : ∀ (σ : zt_St) (u2 : Int32) (u3 : Int32) (u4 : Int32) (u5 : Int32) (u6 : Int32) (u7 : Int32) (u8 : Int32) (u9 : Int32) (u10 : Int32) (u11 : Int32) (H : Heap) (locs : List Loc) (ls : Array Slot), rc28 σ u2 u3 u4 u5 u6 u7 u8 u9 u10 u11 = some (r, σ1) → va_P (zt_D G) vwCl (zt_ww G σ) H → va_S (zt_A G) s.heap H locs → lv_has ls 17 [(0, .ref (zt_ad G 94)), (2, .int u2), (3, .int u3), (4, .int u4), (5, .int u5), (6, .int u6), (7, .int u7), (8, .int u8), (9, .int u9), (10, .int u10), (11, .int u11)] → W p l e (zt_R 6 147) s m ([.ref (zt_ad G 94), .int x1, .int x2, .int x3, .int x4] : List Value).toArray below meth c H locs 0 0 (MQ below (zt_Ci G r σ1) ([.ref (zt_ad G 94), .int x1, .int x2, .int x3, .int x4] : List Value).toArray s 0 0 (zt_A G)) (F0 m 28 ls [])), ∀ (σ : zt_St) (y0 : Int32) (u2 : Int32) (u3 : Int32) (u4 : Int32) (u6 : Int32) (u7 : Int32) (u8 : Int32) (u9 : Int32) (u11 : Int32) (u13 : Int32) (H : Heap) (locs : List Loc) (ls : Array Slot), f_X9_resolves_474 rc28 σ y0 u2 u3 u4 u6 u7 u8 u9 u11 u13 = some (r, σ1) → va_P (zt_D G) vwCl (zt_ww G σ) H → va_S (zt_A G) s.heap H locs → lv_has ls 17 [(0, .ref (zt_ad G 94)), (2, .int u2), (3, .int u3), (4, .int u4), (6, .int u6), (7, .int u7), (8, .int u8), (9, .int u9), (11, .int u11), (13, .int u13)] → W p l e (zt_R 6 147) s m ([.ref (zt_ad G 94), .int x1, .int x2, .int x3, .int x4] : List Value).toArray below meth c H locs 0 0 (MQ below (zt_Ci G r σ1) ([.ref (zt_ad G 94), .int x1, .int x2, .int x3, .int x4] : List Value).toArray s 0 0 (zt_A G)) (F0 m 474 ls [.int y0, .ref (zt_ad G 94)]) := by
    intro rc28 hrc28 σ y0 u2 u3 u4 u6 u7 u8 u9 u11 u13 H locs ls hf hP hS hl
    unfold f_X9_resolves_474 at hf
    obtain ⟨σ35, hσ35, hf⟩ := zt_lt_some hf
    refine va_put (D := zt_D G) (ci := 8) (v := .int y0) (ty := .int) (C := RX9) (T := TX9) (N := 37) hx hb hts inX9 tyX9 tyX9_ok nmX9 hown hK hP (zt_apart hE.1) hS 94 (zt_a8 (rfl : zt_kd 94 = 8)) rfl 36 (by decide) fl254 (fun _ h9 => h9) rfl (tyX9_ok 36 (by decide)) rfl rfl (Nat.le_of_ble_eq_true rfl) dX9_resolves_474 (fun H locs hP _ hS => ?_)
    rw [zt_p8_36 (rfl : zt_kd 94 = 8), ← hσ35] at hP
    refine lv_aload_n hx hb dX9_resolves_477 rfl (lv_at hl 0 rfl) ?_
    refine lv_iload hx hb dX9_resolves_478 (lv_at hl 6 rfl) ?_
    refine lv_aload_n hx hb dX9_resolves_480 rfl (lv_at hl 0 rfl) ?_
    refine va_get (D := zt_D G) (ci := 8) (v := .int (σ35 94 34)) (C := RX9) (T := TX9) (N := 37) hx hb hts inX9 hown hK hP 94 (zt_a8 (rfl : zt_kd 94 = 8)) rfl 34 (by decide) fl199 (fun _ h9 => h9) rfl dX9_resolves_481 ?_
    obtain ⟨v36, hvv36, hf⟩ := zt_bd_some hf
    refine va_calli (va_runV (As := [.int u8, .int (σ35 94 34)]) (rest := []) ⟨hx, hb, hml, hown, hts⟩ (m_X9_least l G (σ := σ35) hvv36) (cwV 2 hts gX9_resolves_X9_least rfl rfl rfl zh_X9_least ⟨Nat.le_of_ble_eq_true rfl, Nat.le_of_ble_eq_true rfl⟩) ⟨zt_blind, va_recv hK hP (ci := 8) (q0 := 94) rfl (zt_a8 (rfl : zt_kd 94 = 8)), fun U hU hW => ⟨rfl, zt_go hE hP hS zt_id hU hW⟩⟩ rfl rfl hl.1 rfl (lv_room (Nat.le_of_ble_eq_true rfl)) dX9_resolves_484 ⟨Nat.zero_le _, Nat.zero_le _⟩) hS (fun _ _ h => h) (fun _ h => h) (fun r u t H locs ht hvm hw hB _ _ hS => ?_)
    rw [hw.1]; have hB : zt_B G u t := hB; rw [hw.2] at hB; have hP := zt_B.P hB ht
    refine lv_istore (lv' := [(8, .int v36), (0, .ref (zt_ad G 94)), (2, .int u2), (3, .int u3), (4, .int u4), (6, .int u6), (7, .int u7), (9, .int u9), (11, .int u11), (13, .int u13)]) hx hb dX9_resolves_487 hl (by decide) rfl (fun ls hl => ?_)
    refine lv_iconst (v := (-1)) hx hb dX9_resolves_489 (by decide) ?_
    refine lv_istore (lv' := [(10, .int (-1)), (8, .int v36), (0, .ref (zt_ad G 94)), (2, .int u2), (3, .int u3), (4, .int u4), (6, .int u6), (7, .int u7), (9, .int u9), (11, .int u11), (13, .int u13)]) hx hb dX9_resolves_490 hl (by decide) rfl (fun ls hl => ?_)
    refine lv_iload hx hb dX9_resolves_492 (lv_at hl 10 rfl) ?_
    refine lv_iconst (v := 4) hx hb dX9_resolves_494 (by decide) ?_
    refine lv_icmp_eq (tgt := 543) hx hb dX9_resolves_495 (by decide) (fun c38 => ?_) (fun c38 => ?_)
    · have hf := (if_pos c38).symm.trans hf
      refine lv_iinc (v := (u7 + 1)) (lv' := [(7, .int (u7 + 1)), (10, .int (-1)), (8, .int v36), (0, .ref (zt_ad G 94)), (2, .int u2), (3, .int u3), (4, .int u4), (6, .int u6), (9, .int u9), (11, .int u11), (13, .int u13)]) hx hb dX9_resolves_543 hl (k := 7) rfl rfl (by decide) rfl (fun ls hl => ?_)
      refine lv_iload hx hb dX9_resolves_546 (lv_at hl 0 rfl) ?_
      refine lv_bipush (v := 8) hx hb dX9_resolves_548 (by decide +kernel) ?_
      refine lv_icmp_le (tgt := 564) hx hb dX9_resolves_550 (by decide) (fun c39 => ?_) (fun c39 => ?_)
      · have hf := (if_pos c39).symm.trans hf
        refine lv_aload_n hx hb dX9_resolves_564 rfl (lv_at hl 3 rfl) ?_
        refine va_get (D := zt_D G) (ci := 8) (v := .int (σ35 94 33)) (C := RX9) (T := TX9) (N := 37) hx hb hts inX9 hown hK hP 94 (zt_a8 (rfl : zt_kd 94 = 8)) rfl 33 (by decide) fl190 (fun _ h9 => h9) rfl dX9_resolves_565 ?_
        refine lv_istore (lv' := [(5, .int (σ35 94 33)), (7, .int (u7 + 1)), (10, .int (-1)), (8, .int v36), (0, .ref (zt_ad G 94)), (2, .int u2), (3, .int u3), (4, .int u4), (6, .int u6), (9, .int u9), (11, .int u11), (13, .int u13)]) hx hb dX9_resolves_568 hl (by decide) rfl (fun ls hl => ?_)
        exact B570 rc28 hrc28 σ35 u2 u3 u4 (σ35 94 33) u6 (u7 + 1) v36 u9 (-1) u11 _ _ _ hf hP hS (lv_sub hl [4, 5, 6, 7, 0, 8, 1, 3, 9, 2, 10] rfl)
      · have hf := (if_neg c39).symm.trans hf
        refine lv_aload_n hx hb dX9_resolves_553 rfl (lv_at hl 3 rfl) ?_
        refine lv_iload hx hb dX9_resolves_554 (lv_at hl 7 rfl) ?_
        refine lv_iload hx hb dX9_resolves_556 (lv_at hl 8 rfl) ?_
        refine lv_iload hx hb dX9_resolves_558 (lv_at hl 6 rfl) ?_
        obtain ⟨⟨v40a, σ41a⟩, hvv40, hf⟩ := zt_bd_some hf
        obtain ⟨v40, hv40, hf⟩ := zt_lt_some hf; obtain ⟨σ41, hσ41, hf⟩ := zt_lt_some hf; rw [show (v40a, σ41a) = (v40, σ41) from by rw [hv40, hσ41]] at hvv40
        refine va_calli (va_runV (As := [.int u6, .int u9, .int u4]) (rest := []) ⟨hx, hb, hml, hown, hts⟩ (m_X9_fails l G (σ := σ35) hvv40) (cwV 3 hts gX9_resolves_X9_fails rfl rfl rfl zh_X9_fails ⟨Nat.le_of_ble_eq_true rfl, Nat.le_of_ble_eq_true rfl⟩) ⟨zt_blind, va_recv hK hP (ci := 8) (q0 := 94) rfl (zt_a8 (rfl : zt_kd 94 = 8)), fun U hU hW => ⟨rfl, zt_go hE hP hS zt_id hU hW⟩⟩ rfl rfl hl.1 rfl (lv_room (Nat.le_of_ble_eq_true rfl)) dX9_resolves_560 ⟨Nat.zero_le _, Nat.zero_le _⟩) hS (fun _ _ h => h) (fun _ h => h) (fun r u t H locs ht hvm hw hB _ _ hS => ?_)
        rw [hw.1]; have hB : zt_B G u t := hB; rw [hw.2] at hB; have hP := zt_B.P hB ht
        exact W.iret hx hb hr (fun t ht hW => ⟨⟨_, _, rfl, (Prod.mk.inj (Option.some.inj hf)), zt_go hE hP hS zt_id ht hW⟩, hS.F ht⟩) hS.2.2 dX9_resolves_563
    · have hf := (if_neg c38).symm.trans hf
      refine lv_iload hx hb dX9_resolves_498 (lv_at hl 5 rfl) ?_
      refine lv_if_eq (tgt := 540) hx hb dX9_resolves_500 (by decide) (fun c43 => ?_) (fun c43 => ?_)
      · have hf := (if_pos c43).symm.trans hf
        refine lv_iload hx hb dX9_resolves_540 (lv_at hl 10 rfl) ?_
        exact W.iret hx hb hr (fun t ht hW => ⟨⟨_, _, rfl, (Prod.mk.inj (Option.some.inj hf)), zt_go hE hP hS zt_id ht hW⟩, hS.F ht⟩) hS.2.2 dX9_resolves_542
      · have hf := (if_neg c43).symm.trans hf
        refine lv_aload_n hx hb dX9_resolves_503 rfl (lv_at hl 2 rfl) ?_
        refine lv_iload hx hb dX9_resolves_504 (lv_at hl 10 rfl) ?_
        refine lv_if_ne (tgt := 516) hx hb dX9_resolves_506 (by decide) (fun c44 => ?_) (fun c44 => ?_)
        · have hf := (if_neg c44).symm.trans hf
          refine lv_iconst (v := (-1)) hx hb dX9_resolves_516 (by decide) ?_
          exact B517 σ35 (-1) u6 v36 u9 u13 _ _ _ hf hP hS (lv_sub hl [2, 6, 1, 8, 10] rfl)
        · have hf := (if_pos c44).symm.trans hf
          refine lv_aload_n hx hb dX9_resolves_509 rfl (lv_at hl 2 rfl) ?_
          refine va_get (D := zt_D G) (ci := 8) (v := .int (σ35 94 32)) (C := RX9) (T := TX9) (N := 37) hx hb hts inX9 hown hK hP 94 (zt_a8 (rfl : zt_kd 94 = 8)) rfl 32 (by decide) fl193 (fun _ h9 => h9) rfl dX9_resolves_510 ?_
          refine lv_goto (tgt := 517) hx hb dX9_resolves_513 (by decide) ?_
          exact B517 σ35 (σ35 94 32) u6 v36 u9 u13 _ _ _ hf hP hS (lv_sub hl [2, 6, 1, 8, 10] rfl)
  have B449 : ∀ (rc28 : zt_St → Int32 → Int32 → Int32 → Int32 → Int32 → Int32 → Int32 → Int32 → Int32 → Int32 → Option (Int32 × zt_St)) (hrc28 : ∀ (σ : zt_St) (u2 : Int32) (u3 : Int32) (u4 : Int32) (u5 : Int32) (u6 : Int32) (u7 : Int32) (u8 : Int32) (u9 : Int32) (u10 : Int32) (u11 : Int32) (H : Heap) (locs : List Loc) (ls : Array Slot), rc28 σ u2 u3 u4 u5 u6 u7 u8 u9 u10 u11 = some (r, σ1) → va_P (zt_D G) vwCl (zt_ww G σ) H → va_S (zt_A G) s.heap H locs → lv_has ls 17 [(0, .ref (zt_ad G 94)), (2, .int u2), (3, .int u3), (4, .int u4), (5, .int u5), (6, .int u6), (7, .int u7), (8, .int u8), (9, .int u9), (10, .int u10), (11, .int u11)] → W p l e (zt_R 6 147) s m ([.ref (zt_ad G 94), .int x1, .int x2, .int x3, .int x4] : List Value).toArray below meth c H locs 0 0 (MQ below (zt_Ci G r σ1) ([.ref (zt_ad G 94), .int x1, .int x2, .int x3, .int x4] : List Value).toArray s 0 0 (zt_A G)) (F0 m 28 ls [])), ∀ (σ : zt_St) (u2 : Int32) (u3 : Int32) (u4 : Int32) (u5 : Int32) (u6 : Int32) (u7 : Int32) (u8 : Int32) (u9 : Int32) (u10 : Int32) (u11 : Int32) (u13 : Int32) (H : Heap) (locs : List Loc) (ls : Array Slot), f_X9_resolves_449 rc28 σ u2 u3 u4 u5 u6 u7 u8 u9 u10 u11 u13 = some (r, σ1) → va_P (zt_D G) vwCl (zt_ww G σ) H → va_S (zt_A G) s.heap H locs → lv_has ls 17 [(0, .ref (zt_ad G 94)), (2, .int u2), (3, .int u3), (4, .int u4), (5, .int u5), (6, .int u6), (7, .int u7), (8, .int u8), (9, .int u9), (10, .int u10), (11, .int u11), (13, .int u13)] → W p l e (zt_R 6 147) s m ([.ref (zt_ad G 94), .int x1, .int x2, .int x3, .int x4] : List Value).toArray below meth c H locs 0 0 (MQ below (zt_Ci G r σ1) ([.ref (zt_ad G 94), .int x1, .int x2, .int x3, .int x4] : List Value).toArray s 0 0 (zt_A G)) (F0 m 449 ls []) := by
    intro rc28 hrc28 σ u2 u3 u4 u5 u6 u7 u8 u9 u10 u11 u13 H locs ls hf hP hS hl
    unfold f_X9_resolves_449 at hf
    refine lv_iload hx hb dX9_resolves_449 (lv_at hl 11 rfl) ?_
    refine lv_iconst (v := 3) hx hb dX9_resolves_451 (by decide) ?_
    refine lv_icmp_eq (tgt := 570) hx hb dX9_resolves_452 (by decide) (fun c25 => ?_) (fun c25 => ?_)
    · have hf := (if_pos c25).symm.trans hf
      exact B570 rc28 hrc28 σ u2 u3 u4 u5 u6 u7 u8 u9 u10 u11 _ _ _ hf hP hS (lv_sub hl [0, 1, 2, 3, 4, 5, 6, 7, 8, 9, 10] rfl)
    · have hf := (if_neg c25).symm.trans hf
      refine lv_aload_n hx hb dX9_resolves_455 rfl (lv_at hl 0 rfl) ?_
      refine lv_iload hx hb dX9_resolves_456 (lv_at hl 10 rfl) ?_
      refine lv_aload_n hx hb dX9_resolves_458 rfl (lv_at hl 0 rfl) ?_
      refine va_get (D := zt_D G) (ci := 8) (v := .int (σ 94 36)) (C := RX9) (T := TX9) (N := 37) hx hb hts inX9 hown hK hP 94 (zt_a8 (rfl : zt_kd 94 = 8)) rfl 36 (by decide) fl254 (fun _ h9 => h9) rfl dX9_resolves_459 ?_
      refine lv_icmp_le (tgt := 470) hx hb dX9_resolves_462 (by decide) (fun c26 => ?_) (fun c26 => ?_)
      · have hf := (if_pos c26).symm.trans hf
        refine lv_aload_n hx hb dX9_resolves_470 rfl (lv_at hl 0 rfl) ?_
        refine va_get (D := zt_D G) (ci := 8) (v := .int (σ 94 36)) (C := RX9) (T := TX9) (N := 37) hx hb hts inX9 hown hK hP 94 (zt_a8 (rfl : zt_kd 94 = 8)) rfl 36 (by decide) fl254 (fun _ h9 => h9) rfl dX9_resolves_471 ?_
        exact B474 rc28 hrc28 σ (σ 94 36) u2 u3 u4 u6 u7 u8 u9 u11 u13 _ _ _ hf hP hS (lv_sub hl [0, 1, 2, 3, 5, 6, 7, 8, 10, 11] rfl)
      · have hf := (if_neg c26).symm.trans hf
        refine lv_iload hx hb dX9_resolves_465 (lv_at hl 10 rfl) ?_
        refine lv_goto (tgt := 474) hx hb dX9_resolves_467 (by decide) ?_
        exact B474 rc28 hrc28 σ u11 u2 u3 u4 u6 u7 u8 u9 u11 u13 _ _ _ hf hP hS (lv_sub hl [0, 1, 2, 3, 5, 6, 7, 8, 10, 11] rfl)
  have B429 : ∀ (rc28 : zt_St → Int32 → Int32 → Int32 → Int32 → Int32 → Int32 → Int32 → Int32 → Int32 → Int32 → Option (Int32 × zt_St)) (hrc28 : ∀ (σ : zt_St) (u2 : Int32) (u3 : Int32) (u4 : Int32) (u5 : Int32) (u6 : Int32) (u7 : Int32) (u8 : Int32) (u9 : Int32) (u10 : Int32) (u11 : Int32) (H : Heap) (locs : List Loc) (ls : Array Slot), rc28 σ u2 u3 u4 u5 u6 u7 u8 u9 u10 u11 = some (r, σ1) → va_P (zt_D G) vwCl (zt_ww G σ) H → va_S (zt_A G) s.heap H locs → lv_has ls 17 [(0, .ref (zt_ad G 94)), (2, .int u2), (3, .int u3), (4, .int u4), (5, .int u5), (6, .int u6), (7, .int u7), (8, .int u8), (9, .int u9), (10, .int u10), (11, .int u11)] → W p l e (zt_R 6 147) s m ([.ref (zt_ad G 94), .int x1, .int x2, .int x3, .int x4] : List Value).toArray below meth c H locs 0 0 (MQ below (zt_Ci G r σ1) ([.ref (zt_ad G 94), .int x1, .int x2, .int x3, .int x4] : List Value).toArray s 0 0 (zt_A G)) (F0 m 28 ls [])), ∀ (σ : zt_St) (u2 : Int32) (u3 : Int32) (u4 : Int32) (u5 : Int32) (u6 : Int32) (u7 : Int32) (u8 : Int32) (u9 : Int32) (u11 : Int32) (u13 : Int32) (u16 : Int32) (H : Heap) (locs : List Loc) (ls : Array Slot), f_X9_resolves_429 rc28 σ u2 u3 u4 u5 u6 u7 u8 u9 u11 u13 u16 = some (r, σ1) → va_P (zt_D G) vwCl (zt_ww G σ) H → va_S (zt_A G) s.heap H locs → lv_has ls 17 [(0, .ref (zt_ad G 94)), (2, .int u2), (3, .int u3), (4, .int u4), (5, .int u5), (6, .int u6), (7, .int u7), (8, .int u8), (9, .int u9), (11, .int u11), (13, .int u13), (16, .int u16)] → W p l e (zt_R 6 147) s m ([.ref (zt_ad G 94), .int x1, .int x2, .int x3, .int x4] : List Value).toArray below meth c H locs 0 0 (MQ below (zt_Ci G r σ1) ([.ref (zt_ad G 94), .int x1, .int x2, .int x3, .int x4] : List Value).toArray s 0 0 (zt_A G)) (F0 m 429 ls []) := by
    intro rc28 hrc28 σ u2 u3 u4 u5 u6 u7 u8 u9 u11 u13 u16 H locs ls hf hP hS hl
    unfold f_X9_resolves_429 at hf
    refine lv_iload hx hb dX9_resolves_429 (lv_at hl 11 rfl) ?_
    refine lv_istore (lv' := [(10, .int u16), (0, .ref (zt_ad G 94)), (2, .int u2), (3, .int u3), (4, .int u4), (5, .int u5), (6, .int u6), (7, .int u7), (8, .int u8), (9, .int u9), (11, .int u11), (13, .int u13), (16, .int u16)]) hx hb dX9_resolves_431 hl (by decide) rfl (fun ls hl => ?_)
    refine lv_goto (tgt := 449) hx hb dX9_resolves_433 (by decide) ?_
    exact B449 rc28 hrc28 σ u2 u3 u4 u5 u6 u7 u8 u9 u16 u11 u13 _ _ _ hf hP hS (lv_sub hl [1, 2, 3, 4, 5, 6, 7, 8, 9, 0, 10, 11] rfl)
  have B407 : ∀ (rc28 : zt_St → Int32 → Int32 → Int32 → Int32 → Int32 → Int32 → Int32 → Int32 → Int32 → Int32 → Option (Int32 × zt_St)) (hrc28 : ∀ (σ : zt_St) (u2 : Int32) (u3 : Int32) (u4 : Int32) (u5 : Int32) (u6 : Int32) (u7 : Int32) (u8 : Int32) (u9 : Int32) (u10 : Int32) (u11 : Int32) (H : Heap) (locs : List Loc) (ls : Array Slot), rc28 σ u2 u3 u4 u5 u6 u7 u8 u9 u10 u11 = some (r, σ1) → va_P (zt_D G) vwCl (zt_ww G σ) H → va_S (zt_A G) s.heap H locs → lv_has ls 17 [(0, .ref (zt_ad G 94)), (2, .int u2), (3, .int u3), (4, .int u4), (5, .int u5), (6, .int u6), (7, .int u7), (8, .int u8), (9, .int u9), (10, .int u10), (11, .int u11)] → W p l e (zt_R 6 147) s m ([.ref (zt_ad G 94), .int x1, .int x2, .int x3, .int x4] : List Value).toArray below meth c H locs 0 0 (MQ below (zt_Ci G r σ1) ([.ref (zt_ad G 94), .int x1, .int x2, .int x3, .int x4] : List Value).toArray s 0 0 (zt_A G)) (F0 m 28 ls [])), ∀ (σ : zt_St) (y0 : Int32) (u2 : Int32) (u3 : Int32) (u4 : Int32) (u5 : Int32) (u6 : Int32) (u7 : Int32) (u8 : Int32) (u9 : Int32) (u13 : Int32) (u16 : Int32) (H : Heap) (locs : List Loc) (ls : Array Slot), f_X9_resolves_407 rc28 σ y0 u2 u3 u4 u5 u6 u7 u8 u9 u13 u16 = some (r, σ1) → va_P (zt_D G) vwCl (zt_ww G σ) H → va_S (zt_A G) s.heap H locs → lv_has ls 17 [(0, .ref (zt_ad G 94)), (2, .int u2), (3, .int u3), (4, .int u4), (5, .int u5), (6, .int u6), (7, .int u7), (8, .int u8), (9, .int u9), (13, .int u13), (16, .int u16)] → W p l e (zt_R 6 147) s m ([.ref (zt_ad G 94), .int x1, .int x2, .int x3, .int x4] : List Value).toArray below meth c H locs 0 0 (MQ below (zt_Ci G r σ1) ([.ref (zt_ad G 94), .int x1, .int x2, .int x3, .int x4] : List Value).toArray s 0 0 (zt_A G)) (F0 m 407 ls [.int y0]) := by
    intro rc28 hrc28 σ y0 u2 u3 u4 u5 u6 u7 u8 u9 u13 u16 H locs ls hf hP hS hl
    unfold f_X9_resolves_407 at hf
    refine lv_istore (lv' := [(11, .int y0), (0, .ref (zt_ad G 94)), (2, .int u2), (3, .int u3), (4, .int u4), (5, .int u5), (6, .int u6), (7, .int u7), (8, .int u8), (9, .int u9), (13, .int u13), (16, .int u16)]) hx hb dX9_resolves_407 hl (by decide) rfl (fun ls hl => ?_)
    refine lv_iload_n hx hb dX9_resolves_409 rfl (lv_at hl 3 rfl) ?_
    refine lv_if_ne (tgt := 429) hx hb dX9_resolves_410 (by decide) (fun c69 => ?_) (fun c69 => ?_)
    · have hf := (if_neg c69).symm.trans hf
      exact B429 rc28 hrc28 σ u2 u3 u4 u5 u6 u7 u8 u9 y0 u13 u16 _ _ _ hf hP hS (lv_sub hl [1, 2, 3, 4, 5, 6, 7, 8, 9, 0, 10, 11] rfl)
    · have hf := (if_pos c69).symm.trans hf
      refine lv_aload_n hx hb dX9_resolves_413 rfl (lv_at hl 1 rfl) ?_
      refine va_get (D := zt_D G) (ci := 8) (v := .ref (zt_ad G 113)) (C := RX9) (T := TX9) (N := 37) hx hb hts inX9 hown hK hP 94 (zt_a8 (rfl : zt_kd 94 = 8)) rfl 23 (by decide) fl72 (fun _ h9 => h9) rfl dX9_resolves_414 ?_
      refine lv_iload hx hb dX9_resolves_417 (lv_at hl 11 rfl) ?_
      refine lv_aload_n hx hb dX9_resolves_419 rfl (lv_at hl 1 rfl) ?_
      refine va_get (D := zt_D G) (ci := 8) (v := .int (σ 94 1)) (C := RX9) (T := TX9) (N := 37) hx hb hts inX9 hown hK hP 94 (zt_a8 (rfl : zt_kd 94 = 8)) rfl 1 (by decide) fl248 (fun _ h9 => h9) rfl dX9_resolves_420 ?_
      refine lv_aload_n hx hb dX9_resolves_423 rfl (lv_at hl 1 rfl) ?_
      refine va_get (D := zt_D G) (ci := 8) (v := .int (σ 94 34)) (C := RX9) (T := TX9) (N := 37) hx hb hts inX9 hown hK hP 94 (zt_a8 (rfl : zt_kd 94 = 8)) rfl 34 (by decide) fl199 (fun _ h9 => h9) rfl dX9_resolves_424 ?_
      refine lv_iadd hx hb dX9_resolves_427 ?_
      obtain ⟨g70, hf⟩ := zt_gd_some hf
      obtain ⟨σ71, hσ71, hf⟩ := zt_lt_some hf
      refine va_iast hx hb hK hP (zt_apart hE.1) hS 113 0 zt_a_113 rfl (zt_gI_in g70) dX9_resolves_428 (fun H locs hP _ hS => ?_)
      rw [zt_p_113, ← hσ71] at hP
      exact B429 rc28 hrc28 σ71 u2 u3 u4 u5 u6 u7 u8 u9 y0 u13 u16 _ _ _ hf hP hS (lv_sub hl [1, 2, 3, 4, 5, 6, 7, 8, 9, 0, 10, 11] rfl)
  have B279 : ∀ (σ : zt_St) (u4 : Int32) (u6 : Int32) (u9 : Int32) (H : Heap) (locs : List Loc) (ls : Array Slot), f_X9_resolves_279 σ u4 u6 u9 = some (r, σ1) → va_P (zt_D G) vwCl (zt_ww G σ) H → va_S (zt_A G) s.heap H locs → lv_has ls 17 [(0, .ref (zt_ad G 94)), (4, .int u4), (6, .int u6), (9, .int u9)] → W p l e (zt_R 6 147) s m ([.ref (zt_ad G 94), .int x1, .int x2, .int x3, .int x4] : List Value).toArray below meth c H locs 0 0 (MQ below (zt_Ci G r σ1) ([.ref (zt_ad G 94), .int x1, .int x2, .int x3, .int x4] : List Value).toArray s 0 0 (zt_A G)) (F0 m 279 ls []) := by
    intro σ u4 u6 u9 H locs ls hf hP hS hl
    unfold f_X9_resolves_279 at hf
    refine lv_aload_n hx hb dX9_resolves_279 rfl (lv_at hl 0 rfl) ?_
    refine lv_iload hx hb dX9_resolves_280 (lv_at hl 2 rfl) ?_
    refine lv_iload hx hb dX9_resolves_282 (lv_at hl 3 rfl) ?_
    refine lv_iload hx hb dX9_resolves_284 (lv_at hl 1 rfl) ?_
    obtain ⟨⟨v80a, σ81a⟩, hvv80, hf⟩ := zt_bd_some hf
    obtain ⟨v80, hv80, hf⟩ := zt_lt_some hf; obtain ⟨σ81, hσ81, hf⟩ := zt_lt_some hf; rw [show (v80a, σ81a) = (v80, σ81) from by rw [hv80, hσ81]] at hvv80
    refine va_calli (va_runV (As := [.int u6, .int u9, .int u4]) (rest := []) ⟨hx, hb, hml, hown, hts⟩ (m_X9_fails l G (σ := σ) hvv80) (cwV 3 hts gX9_resolves_X9_fails rfl rfl rfl zh_X9_fails ⟨Nat.le_of_ble_eq_true rfl, Nat.le_of_ble_eq_true rfl⟩) ⟨zt_blind, va_recv hK hP (ci := 8) (q0 := 94) rfl (zt_a8 (rfl : zt_kd 94 = 8)), fun U hU hW => ⟨rfl, zt_go hE hP hS zt_id hU hW⟩⟩ rfl rfl hl.1 rfl (lv_room (Nat.le_of_ble_eq_true rfl)) dX9_resolves_286 ⟨Nat.zero_le _, Nat.zero_le _⟩) hS (fun _ _ h => h) (fun _ h => h) (fun r u t H locs ht hvm hw hB _ _ hS => ?_)
    rw [hw.1]; have hB : zt_B G u t := hB; rw [hw.2] at hB; have hP := zt_B.P hB ht
    exact W.iret hx hb hr (fun t ht hW => ⟨⟨_, _, rfl, (Prod.mk.inj (Option.some.inj hf)), zt_go hE hP hS zt_id ht hW⟩, hS.F ht⟩) hS.2.2 dX9_resolves_289
  have B254 : ∀ (rc28 : zt_St → Int32 → Int32 → Int32 → Int32 → Int32 → Int32 → Int32 → Int32 → Int32 → Int32 → Option (Int32 × zt_St)) (hrc28 : ∀ (σ : zt_St) (u2 : Int32) (u3 : Int32) (u4 : Int32) (u5 : Int32) (u6 : Int32) (u7 : Int32) (u8 : Int32) (u9 : Int32) (u10 : Int32) (u11 : Int32) (H : Heap) (locs : List Loc) (ls : Array Slot), rc28 σ u2 u3 u4 u5 u6 u7 u8 u9 u10 u11 = some (r, σ1) → va_P (zt_D G) vwCl (zt_ww G σ) H → va_S (zt_A G) s.heap H locs → lv_has ls 17 [(0, .ref (zt_ad G 94)), (2, .int u2), (3, .int u3), (4, .int u4), (5, .int u5), (6, .int u6), (7, .int u7), (8, .int u8), (9, .int u9), (10, .int u10), (11, .int u11)] → W p l e (zt_R 6 147) s m ([.ref (zt_ad G 94), .int x1, .int x2, .int x3, .int x4] : List Value).toArray below meth c H locs 0 0 (MQ below (zt_Ci G r σ1) ([.ref (zt_ad G 94), .int x1, .int x2, .int x3, .int x4] : List Value).toArray s 0 0 (zt_A G)) (F0 m 28 ls [])), ∀ (σ : zt_St) (y0 : Int32) (u2 : Int32) (u3 : Int32) (u4 : Int32) (u5 : Int32) (u6 : Int32) (u7 : Int32) (u8 : Int32) (u9 : Int32) (u10 : Int32) (u11 : Int32) (H : Heap) (locs : List Loc) (ls : Array Slot), f_X9_resolves_254 rc28 σ y0 u2 u3 u4 u5 u6 u7 u8 u9 u10 u11 = some (r, σ1) → va_P (zt_D G) vwCl (zt_ww G σ) H → va_S (zt_A G) s.heap H locs → lv_has ls 17 [(0, .ref (zt_ad G 94)), (2, .int u2), (3, .int u3), (4, .int u4), (5, .int u5), (6, .int u6), (7, .int u7), (8, .int u8), (9, .int u9), (10, .int u10), (11, .int u11)] → W p l e (zt_R 6 147) s m ([.ref (zt_ad G 94), .int x1, .int x2, .int x3, .int x4] : List Value).toArray below meth c H locs 0 0 (MQ below (zt_Ci G r σ1) ([.ref (zt_ad G 94), .int x1, .int x2, .int x3, .int x4] : List Value).toArray s 0 0 (zt_A G)) (F0 m 254 ls [.int y0]) := by
    intro rc28 hrc28 σ y0 u2 u3 u4 u5 u6 u7 u8 u9 u10 u11 H locs ls hf hP hS hl
    unfold f_X9_resolves_254 at hf
    refine lv_istore (lv' := [(15, .int y0), (0, .ref (zt_ad G 94)), (2, .int u2), (3, .int u3), (4, .int u4), (5, .int u5), (6, .int u6), (7, .int u7), (8, .int u8), (9, .int u9), (10, .int u10), (11, .int u11)]) hx hb dX9_resolves_254 hl (by decide) rfl (fun ls hl => ?_)
    refine lv_iload hx hb dX9_resolves_256 (lv_at hl 0 rfl) ?_
    refine lv_iconst (v := (-1)) hx hb dX9_resolves_258 (by decide) ?_
    refine lv_icmp_eq (tgt := 279) hx hb dX9_resolves_259 (by decide) (fun c72 => ?_) (fun c72 => ?_)
    · have hf := (if_pos c72).symm.trans hf
      exact B279 σ u4 u6 u9 _ _ _ hf hP hS (lv_sub hl [1, 4, 6, 9] rfl)
    · have hf := (if_neg c72).symm.trans hf
      refine lv_aload_n hx hb dX9_resolves_262 rfl (lv_at hl 1 rfl) ?_
      refine va_get (D := zt_D G) (ci := 8) (v := .int (σ 94 1)) (C := RX9) (T := TX9) (N := 37) hx hb hts inX9 hown hK hP 94 (zt_a8 (rfl : zt_kd 94 = 8)) rfl 1 (by decide) fl248 (fun _ h9 => h9) rfl dX9_resolves_263 ?_
      refine lv_aload_n hx hb dX9_resolves_266 rfl (lv_at hl 1 rfl) ?_
      refine va_get (D := zt_D G) (ci := 8) (v := .ref (zt_ad G 120)) (C := RX9) (T := TX9) (N := 37) hx hb hts inX9 hown hK hP 94 (zt_a8 (rfl : zt_kd 94 = 8)) rfl 31 (by decide) fl93 (fun _ h9 => h9) rfl dX9_resolves_267 ?_
      refine lv_iload hx hb dX9_resolves_270 (lv_at hl 0 rfl) ?_
      obtain ⟨g73, hf⟩ := zt_gd_some hf
      refine va_iald hx hb hK hP 120 0 zt_a_120 rfl (zt_gI_in g73) dX9_resolves_272 ?_
      refine lv_bipush (v := 60) hx hb dX9_resolves_273 (by decide +kernel) ?_
      refine lv_iadd hx hb dX9_resolves_275 ?_
      refine lv_icmp_lt (tgt := 290) hx hb dX9_resolves_276 (by decide) (fun c74 => ?_) (fun c74 => ?_)
      · have hf := (if_pos c74).symm.trans hf
        refine lv_aload_n hx hb dX9_resolves_290 rfl (lv_at hl 1 rfl) ?_
        refine va_get (D := zt_D G) (ci := 8) (v := .ref (zt_ad G 116)) (C := RX9) (T := TX9) (N := 37) hx hb hts inX9 hown hK hP 94 (zt_a8 (rfl : zt_kd 94 = 8)) rfl 27 (by decide) fl81 (fun _ h9 => h9) rfl dX9_resolves_291 ?_
        refine lv_iload hx hb dX9_resolves_294 (lv_at hl 0 rfl) ?_
        obtain ⟨g75, hf⟩ := zt_gd_some hf
        refine va_iald hx hb hK hP 116 0 zt_a_116 rfl (zt_gI_in g75) dX9_resolves_296 ?_
        refine lv_istore (lv' := [(13, .int (σ 116 y0.toNatClampNeg)), (15, .int y0), (0, .ref (zt_ad G 94)), (2, .int u2), (3, .int u3), (4, .int u4), (5, .int u5), (6, .int u6), (7, .int u7), (8, .int u8), (9, .int u9), (10, .int u10), (11, .int u11)]) hx hb dX9_resolves_297 hl (by decide) rfl (fun ls hl => ?_)
        refine lv_aload_n hx hb dX9_resolves_299 rfl (lv_at hl 2 rfl) ?_
        refine lv_iload hx hb dX9_resolves_300 (lv_at hl 1 rfl) ?_
        obtain ⟨σ77, hvv76, hf⟩ := zt_bd_some hf
        refine va_callv (va_runV (As := [.int y0]) (rest := []) ⟨hx, hb, hml, hown, hts⟩ (m_X9_takes l G (σ := σ) hvv76) (cwV 1 hts gX9_resolves_X9_takes rfl rfl rfl zh_X9_takes ⟨Nat.le_of_ble_eq_true rfl, Nat.le_of_ble_eq_true rfl⟩) ⟨zt_blind, va_recv hK hP (ci := 8) (q0 := 94) rfl (zt_a8 (rfl : zt_kd 94 = 8)), fun U hU hW => ⟨rfl, zt_go hE hP hS zt_id hU hW⟩⟩ rfl rfl hl.1 rfl (lv_room (Nat.le_of_ble_eq_true rfl)) dX9_resolves_302 ⟨Nat.zero_le _, Nat.zero_le _⟩) hS (fun _ _ h => h) (fun _ h => h) (fun u t H locs ht hvm hw hB _ _ hS => ?_)
        have hB : zt_B G u t := hB; rw [hw] at hB; have hP := zt_B.P hB ht
        refine lv_iconst (v := 1) hx hb dX9_resolves_305 (by decide) ?_
        refine lv_istore (lv' := [(9, .int 1), (13, .int (σ 116 y0.toNatClampNeg)), (15, .int y0), (0, .ref (zt_ad G 94)), (2, .int u2), (3, .int u3), (4, .int u4), (5, .int u5), (6, .int u6), (7, .int u7), (8, .int u8), (10, .int u10), (11, .int u11)]) hx hb dX9_resolves_306 hl (by decide) rfl (fun ls hl => ?_)
        refine lv_goto (tgt := 449) hx hb dX9_resolves_308 (by decide) ?_
        exact B449 rc28 hrc28 σ77 u2 u3 u4 u5 u6 u7 u8 1 u10 u11 (σ 116 y0.toNatClampNeg) _ _ _ hf hP hS (lv_sub hl [3, 4, 5, 6, 7, 8, 9, 10, 0, 11, 12, 1] rfl)
      · have hf := (if_neg c74).symm.trans hf
        exact B279 σ u4 u6 u9 _ _ _ hf hP hS (lv_sub hl [1, 4, 6, 9] rfl)
  have B231 : ∀ (rc28 : zt_St → Int32 → Int32 → Int32 → Int32 → Int32 → Int32 → Int32 → Int32 → Int32 → Int32 → Option (Int32 × zt_St)) (hrc28 : ∀ (σ : zt_St) (u2 : Int32) (u3 : Int32) (u4 : Int32) (u5 : Int32) (u6 : Int32) (u7 : Int32) (u8 : Int32) (u9 : Int32) (u10 : Int32) (u11 : Int32) (H : Heap) (locs : List Loc) (ls : Array Slot), rc28 σ u2 u3 u4 u5 u6 u7 u8 u9 u10 u11 = some (r, σ1) → va_P (zt_D G) vwCl (zt_ww G σ) H → va_S (zt_A G) s.heap H locs → lv_has ls 17 [(0, .ref (zt_ad G 94)), (2, .int u2), (3, .int u3), (4, .int u4), (5, .int u5), (6, .int u6), (7, .int u7), (8, .int u8), (9, .int u9), (10, .int u10), (11, .int u11)] → W p l e (zt_R 6 147) s m ([.ref (zt_ad G 94), .int x1, .int x2, .int x3, .int x4] : List Value).toArray below meth c H locs 0 0 (MQ below (zt_Ci G r σ1) ([.ref (zt_ad G 94), .int x1, .int x2, .int x3, .int x4] : List Value).toArray s 0 0 (zt_A G)) (F0 m 28 ls [])), ∀ (σ : zt_St) (y0 : Int32) (u2 : Int32) (u3 : Int32) (u4 : Int32) (u5 : Int32) (u6 : Int32) (u7 : Int32) (u8 : Int32) (u9 : Int32) (u10 : Int32) (u11 : Int32) (H : Heap) (locs : List Loc) (ls : Array Slot), f_X9_resolves_231 rc28 σ y0 u2 u3 u4 u5 u6 u7 u8 u9 u10 u11 = some (r, σ1) → va_P (zt_D G) vwCl (zt_ww G σ) H → va_S (zt_A G) s.heap H locs → lv_has ls 17 [(0, .ref (zt_ad G 94)), (2, .int u2), (3, .int u3), (4, .int u4), (5, .int u5), (6, .int u6), (7, .int u7), (8, .int u8), (9, .int u9), (10, .int u10), (11, .int u11)] → W p l e (zt_R 6 147) s m ([.ref (zt_ad G 94), .int x1, .int x2, .int x3, .int x4] : List Value).toArray below meth c H locs 0 0 (MQ below (zt_Ci G r σ1) ([.ref (zt_ad G 94), .int x1, .int x2, .int x3, .int x4] : List Value).toArray s 0 0 (zt_A G)) (F0 m 231 ls [.int y0]) := by
    intro rc28 hrc28 σ y0 u2 u3 u4 u5 u6 u7 u8 u9 u10 u11 H locs ls hf hP hS hl
    unfold f_X9_resolves_231 at hf
    refine lv_istore (lv' := [(14, .int y0), (0, .ref (zt_ad G 94)), (2, .int u2), (3, .int u3), (4, .int u4), (5, .int u5), (6, .int u6), (7, .int u7), (8, .int u8), (9, .int u9), (10, .int u10), (11, .int u11)]) hx hb dX9_resolves_231 hl (by decide) rfl (fun ls hl => ?_)
    refine lv_iload hx hb dX9_resolves_233 (lv_at hl 0 rfl) ?_
    refine lv_iconst (v := (-1)) hx hb dX9_resolves_235 (by decide) ?_
    refine lv_icmp_ne (tgt := 311) hx hb dX9_resolves_236 (by decide) (fun c45 => ?_) (fun c45 => ?_)
    · have hf := (if_neg c45).symm.trans hf
      refine lv_aload_n hx hb dX9_resolves_311 rfl (lv_at hl 1 rfl) ?_
      refine lv_iload hx hb dX9_resolves_312 (lv_at hl 0 rfl) ?_
      refine lv_iload hx hb dX9_resolves_314 (lv_at hl 10 rfl) ?_
      refine lv_iload hx hb dX9_resolves_316 (lv_at hl 5 rfl) ?_
      refine lv_iload_n hx hb dX9_resolves_318 rfl (lv_at hl 2 rfl) ?_
      obtain ⟨⟨v46a, σ47a⟩, hvv46, hf⟩ := zt_bd_some hf
      obtain ⟨v46, hv46, hf⟩ := zt_lt_some hf; obtain ⟨σ47, hσ47, hf⟩ := zt_lt_some hf; rw [show (v46a, σ47a) = (v46, σ47) from by rw [hv46, hσ47]] at hvv46
      refine va_calli (va_runV (As := [.int y0, .int u10, .int u5, .int u2]) (rest := []) ⟨hx, hb, hml, hown, hts⟩ (m_X9_asks l G (σ := σ) hvv46) (cwV 4 hts gX9_resolves_X9_asks rfl rfl rfl zh_X9_asks ⟨Nat.le_of_ble_eq_true rfl, Nat.le_of_ble_eq_true rfl⟩) ⟨zt_blind, va_recv hK hP (ci := 8) (q0 := 94) rfl (zt_a8 (rfl : zt_kd 94 = 8)), fun U hU hW => ⟨rfl, zt_go hE hP hS zt_id hU hW⟩⟩ rfl rfl hl.1 rfl (lv_room (Nat.le_of_ble_eq_true rfl)) dX9_resolves_319 ⟨Nat.zero_le _, Nat.zero_le _⟩) hS (fun _ _ h => h) (fun _ h => h) (fun r u t H locs ht hvm hw hB _ _ hS => ?_)
      rw [hw.1]; have hB : zt_B G u t := hB; rw [hw.2] at hB; have hP := zt_B.P hB ht
      refine lv_istore (lv' := [(13, .int v46), (14, .int y0), (0, .ref (zt_ad G 94)), (2, .int u2), (3, .int u3), (4, .int u4), (5, .int u5), (6, .int u6), (7, .int u7), (8, .int u8), (9, .int u9), (10, .int u10), (11, .int u11)]) hx hb dX9_resolves_322 hl (by decide) rfl (fun ls hl => ?_)
      refine lv_iload hx hb dX9_resolves_324 (lv_at hl 0 rfl) ?_
      refine lv_iconst (v := 5) hx hb dX9_resolves_326 (by decide) ?_
      refine lv_icmp_ne (tgt := 341) hx hb dX9_resolves_327 (by decide) (fun c49 => ?_) (fun c49 => ?_)
      · have hf := (if_neg c49).symm.trans hf
        refine lv_iload hx hb dX9_resolves_341 (lv_at hl 0 rfl) ?_
        refine lv_iconst (v := 3) hx hb dX9_resolves_343 (by decide) ?_
        refine lv_icmp_ne (tgt := 436) hx hb dX9_resolves_344 (by decide) (fun c50 => ?_) (fun c50 => ?_)
        · have hf := (if_neg c50).symm.trans hf
          refine lv_iload_n hx hb dX9_resolves_436 rfl (lv_at hl 4 rfl) ?_
          refine lv_if_ne (tgt := 449) hx hb dX9_resolves_437 (by decide) (fun c51 => ?_) (fun c51 => ?_)
          · have hf := (if_neg c51).symm.trans hf
            exact B449 rc28 hrc28 σ47 u2 u3 u4 u5 u6 u7 u8 u9 u10 u11 v46 _ _ _ hf hP hS (lv_sub hl [2, 3, 4, 5, 6, 7, 8, 9, 10, 11, 12, 0] rfl)
          · have hf := (if_pos c51).symm.trans hf
            refine lv_aload_n hx hb dX9_resolves_440 rfl (lv_at hl 2 rfl) ?_
            refine lv_iload hx hb dX9_resolves_441 (lv_at hl 6 rfl) ?_
            refine lv_iload_n hx hb dX9_resolves_443 rfl (lv_at hl 3 rfl) ?_
            refine lv_iload hx hb dX9_resolves_444 (lv_at hl 0 rfl) ?_
            obtain ⟨σ53, hvv52, hf⟩ := zt_bd_some hf
            refine va_callv (va_runV (As := [.int u5, .int u2, .int v46]) (rest := []) ⟨hx, hb, hml, hown, hts⟩ (m_X9_keeps l G (σ := σ47) hvv52) (cwV 3 hts gX9_resolves_X9_keeps rfl rfl rfl zh_X9_keeps ⟨Nat.le_of_ble_eq_true rfl, Nat.le_of_ble_eq_true rfl⟩) ⟨zt_blind, va_recv hK hP (ci := 8) (q0 := 94) rfl (zt_a8 (rfl : zt_kd 94 = 8)), fun U hU hW => ⟨rfl, zt_go hE hP hS zt_id hU hW⟩⟩ rfl rfl hl.1 rfl (lv_room (Nat.le_of_ble_eq_true rfl)) dX9_resolves_446 ⟨Nat.zero_le _, Nat.zero_le _⟩) hS (fun _ _ h => h) (fun _ h => h) (fun u t H locs ht hvm hw hB _ _ hS => ?_)
            have hB : zt_B G u t := hB; rw [hw] at hB; have hP := zt_B.P hB ht
            exact B449 rc28 hrc28 σ53 u2 u3 u4 u5 u6 u7 u8 u9 u10 u11 v46 _ _ _ hf hP hS (lv_sub hl [2, 3, 4, 5, 6, 7, 8, 9, 10, 11, 12, 0] rfl)
        · have hf := (if_pos c50).symm.trans hf
          refine lv_aload_n hx hb dX9_resolves_347 rfl (lv_at hl 2 rfl) ?_
          refine lv_iload hx hb dX9_resolves_348 (lv_at hl 1 rfl) ?_
          refine lv_aload_n hx hb dX9_resolves_350 rfl (lv_at hl 2 rfl) ?_
          refine va_get (D := zt_D G) (ci := 8) (v := .int (σ47 94 33)) (C := RX9) (T := TX9) (N := 37) hx hb hts inX9 hown hK hP 94 (zt_a8 (rfl : zt_kd 94 = 8)) rfl 33 (by decide) fl190 (fun _ h9 => h9) rfl dX9_resolves_351 ?_
          refine lv_iconst (v := 4) hx hb dX9_resolves_354 (by decide) ?_
          obtain ⟨v54, hvv54, hf⟩ := zt_bd_some hf
          refine va_calli (va_runV (As := [.int y0, .int (σ47 94 33), .int 4]) (rest := []) ⟨hx, hb, hml, hown, hts⟩ (m_X9_find l G (σ := σ47) hvv54) (cwV 3 hts gX9_resolves_X9_find rfl rfl rfl zh_X9_find ⟨Nat.le_of_ble_eq_true rfl, Nat.le_of_ble_eq_true rfl⟩) ⟨zt_blind, va_recv hK hP (ci := 8) (q0 := 94) rfl (zt_a8 (rfl : zt_kd 94 = 8)), fun U hU hW => ⟨rfl, zt_go hE hP hS zt_id hU hW⟩⟩ rfl rfl hl.1 rfl (lv_room (Nat.le_of_ble_eq_true rfl)) dX9_resolves_355 ⟨Nat.zero_le _, Nat.zero_le _⟩) hS (fun _ _ h => h) (fun _ h => h) (fun r u t H locs ht hvm hw hB _ _ hS => ?_)
          rw [hw.1]; have hB : zt_B G u t := hB; rw [hw.2] at hB; have hP := zt_B.P hB ht
          refine lv_istore (lv' := [(15, .int v54), (13, .int v46), (14, .int y0), (0, .ref (zt_ad G 94)), (2, .int u2), (3, .int u3), (4, .int u4), (5, .int u5), (6, .int u6), (7, .int u7), (8, .int u8), (9, .int u9), (10, .int u10), (11, .int u11)]) hx hb dX9_resolves_358 hl (by decide) rfl (fun ls hl => ?_)
          refine lv_aload_n hx hb dX9_resolves_360 rfl (lv_at hl 3 rfl) ?_
          refine va_get (D := zt_D G) (ci := 8) (v := .int (σ47 94 32)) (C := RX9) (T := TX9) (N := 37) hx hb hts inX9 hown hK hP 94 (zt_a8 (rfl : zt_kd 94 = 8)) rfl 32 (by decide) fl193 (fun _ h9 => h9) rfl dX9_resolves_361 ?_
          refine lv_istore (lv' := [(16, .int (σ47 94 32)), (15, .int v54), (13, .int v46), (14, .int y0), (0, .ref (zt_ad G 94)), (2, .int u2), (3, .int u3), (4, .int u4), (5, .int u5), (6, .int u6), (7, .int u7), (8, .int u8), (9, .int u9), (10, .int u10), (11, .int u11)]) hx hb dX9_resolves_364 hl (by decide) rfl (fun ls hl => ?_)
          refine lv_iload hx hb dX9_resolves_366 (lv_at hl 14 rfl) ?_
          refine lv_if_eq (tgt := 376) hx hb dX9_resolves_368 (by decide) (fun c56 => ?_) (fun c56 => ?_)
          · have hf := (if_pos c56).symm.trans hf
            refine lv_iload hx hb dX9_resolves_376 (lv_at hl 1 rfl) ?_
            refine lv_iconst (v := (-1)) hx hb dX9_resolves_378 (by decide) ?_
            refine lv_icmp_ne (tgt := 386) hx hb dX9_resolves_379 (by decide) (fun c57 => ?_) (fun c57 => ?_)
            · have hf := (if_neg c57).symm.trans hf
              refine lv_aload_n hx hb dX9_resolves_386 rfl (lv_at hl 4 rfl) ?_
              refine lv_iload hx hb dX9_resolves_387 (lv_at hl 0 rfl) ?_
              refine lv_aload_n hx hb dX9_resolves_389 rfl (lv_at hl 4 rfl) ?_
              refine va_get (D := zt_D G) (ci := 8) (v := .ref (zt_ad G 106)) (C := RX9) (T := TX9) (N := 37) hx hb hts inX9 hown hK hP 94 (zt_a8 (rfl : zt_kd 94 = 8)) rfl 15 (by decide) fl51 (fun _ h9 => h9) rfl dX9_resolves_390 ?_
              refine lv_iload hx hb dX9_resolves_393 (lv_at hl 1 rfl) ?_
              obtain ⟨g58, hf⟩ := zt_gd_some hf
              refine va_iald hx hb hK hP 106 0 zt_a_106 rfl (zt_gI_in g58) dX9_resolves_395 ?_
              obtain ⟨v59, hvv59, hf⟩ := zt_bd_some hf
              refine va_calli (va_runV (As := [.int (σ47 94 32), .int (σ47 106 v54.toNatClampNeg)]) (rest := []) ⟨hx, hb, hml, hown, hts⟩ (m_X9_isGood l G (σ := σ47) hvv59) (cwV 2 hts gX9_resolves_X9_isGood rfl rfl rfl zh_X9_isGood ⟨Nat.le_of_ble_eq_true rfl, Nat.le_of_ble_eq_true rfl⟩) ⟨zt_blind, va_recv hK hP (ci := 8) (q0 := 94) rfl (zt_a8 (rfl : zt_kd 94 = 8)), fun U hU hW => ⟨rfl, zt_go hE hP hS zt_id hU hW⟩⟩ rfl rfl hl.1 rfl (lv_room (Nat.le_of_ble_eq_true rfl)) dX9_resolves_396 ⟨Nat.zero_le _, Nat.zero_le _⟩) hS (fun _ _ h => h) (fun _ h => h) (fun r u t H locs ht hvm hw hB _ _ hS => ?_)
              rw [hw.1]; have hB : zt_B G u t := hB; rw [hw.2] at hB; have hP := zt_B.P hB ht
              refine lv_if_eq (tgt := 406) hx hb dX9_resolves_399 (by decide) (fun c61 => ?_) (fun c61 => ?_)
              · have hf := (if_pos c61).symm.trans hf
                refine lv_iconst (v := 2) hx hb dX9_resolves_406 (by decide) ?_
                exact B407 rc28 hrc28 σ47 2 u2 u3 u4 u5 u6 u7 u8 u9 v46 (σ47 94 32) _ _ _ hf hP hS (lv_sub hl [4, 5, 6, 7, 8, 9, 10, 11, 12, 2, 0] rfl)
              · have hf := (if_neg c61).symm.trans hf
                refine lv_iconst (v := 0) hx hb dX9_resolves_402 (by decide) ?_
                refine lv_goto (tgt := 407) hx hb dX9_resolves_403 (by decide) ?_
                exact B407 rc28 hrc28 σ47 0 u2 u3 u4 u5 u6 u7 u8 u9 v46 (σ47 94 32) _ _ _ hf hP hS (lv_sub hl [4, 5, 6, 7, 8, 9, 10, 11, 12, 2, 0] rfl)
            · have hf := (if_pos c57).symm.trans hf
              refine lv_iconst (v := 1) hx hb dX9_resolves_382 (by decide) ?_
              refine lv_goto (tgt := 407) hx hb dX9_resolves_383 (by decide) ?_
              exact B407 rc28 hrc28 σ47 1 u2 u3 u4 u5 u6 u7 u8 u9 v46 (σ47 94 32) _ _ _ hf hP hS (lv_sub hl [4, 5, 6, 7, 8, 9, 10, 11, 12, 2, 0] rfl)
          · have hf := (if_neg c56).symm.trans hf
            refine lv_iload hx hb dX9_resolves_371 (lv_at hl 14 rfl) ?_
            refine lv_goto (tgt := 407) hx hb dX9_resolves_373 (by decide) ?_
            exact B407 rc28 hrc28 σ47 u11 u2 u3 u4 u5 u6 u7 u8 u9 v46 (σ47 94 32) _ _ _ hf hP hS (lv_sub hl [4, 5, 6, 7, 8, 9, 10, 11, 12, 2, 0] rfl)
      · have hf := (if_pos c49).symm.trans hf
        refine lv_aload_n hx hb dX9_resolves_330 rfl (lv_at hl 2 rfl) ?_
        refine lv_iload hx hb dX9_resolves_331 (lv_at hl 7 rfl) ?_
        refine lv_iload hx hb dX9_resolves_333 (lv_at hl 10 rfl) ?_
        refine lv_iload hx hb dX9_resolves_335 (lv_at hl 5 rfl) ?_
        obtain ⟨⟨v62a, σ63a⟩, hvv62, hf⟩ := zt_bd_some hf
        obtain ⟨v62, hv62, hf⟩ := zt_lt_some hf; obtain ⟨σ63, hσ63, hf⟩ := zt_lt_some hf; rw [show (v62a, σ63a) = (v62, σ63) from by rw [hv62, hσ63]] at hvv62
        refine va_calli (va_runV (As := [.int u6, .int u9, .int u4]) (rest := []) ⟨hx, hb, hml, hown, hts⟩ (m_X9_fails l G (σ := σ47) hvv62) (cwV 3 hts gX9_resolves_X9_fails rfl rfl rfl zh_X9_fails ⟨Nat.le_of_ble_eq_true rfl, Nat.le_of_ble_eq_true rfl⟩) ⟨zt_blind, va_recv hK hP (ci := 8) (q0 := 94) rfl (zt_a8 (rfl : zt_kd 94 = 8)), fun U hU hW => ⟨rfl, zt_go hE hP hS zt_id hU hW⟩⟩ rfl rfl hl.1 rfl (lv_room (Nat.le_of_ble_eq_true rfl)) dX9_resolves_337 ⟨Nat.zero_le _, Nat.zero_le _⟩) hS (fun _ _ h => h) (fun _ h => h) (fun r u t H locs ht hvm hw hB _ _ hS => ?_)
        rw [hw.1]; have hB : zt_B G u t := hB; rw [hw.2] at hB; have hP := zt_B.P hB ht
        exact W.iret hx hb hr (fun t ht hW => ⟨⟨_, _, rfl, (Prod.mk.inj (Option.some.inj hf)), zt_go hE hP hS zt_id ht hW⟩, hS.F ht⟩) hS.2.2 dX9_resolves_340
    · have hf := (if_pos c45).symm.trans hf
      refine lv_iload_n hx hb dX9_resolves_239 rfl (lv_at hl 3 rfl) ?_
      refine lv_if_eq (tgt := 247) hx hb dX9_resolves_240 (by decide) (fun c65 => ?_) (fun c65 => ?_)
      · have hf := (if_pos c65).symm.trans hf
        refine lv_aload_n hx hb dX9_resolves_247 rfl (lv_at hl 1 rfl) ?_
        refine lv_iload hx hb dX9_resolves_248 (lv_at hl 5 rfl) ?_
        refine lv_iload_n hx hb dX9_resolves_250 rfl (lv_at hl 2 rfl) ?_
        obtain ⟨v66, hvv66, hf⟩ := zt_bd_some hf
        refine va_calli (va_runV (As := [.int u5, .int u2]) (rest := []) ⟨hx, hb, hml, hown, hts⟩ (m_X9_keptOf l G (σ := σ) hvv66) (cwV 2 hts gX9_resolves_X9_keptOf rfl rfl rfl zh_X9_keptOf ⟨Nat.le_of_ble_eq_true rfl, Nat.le_of_ble_eq_true rfl⟩) ⟨zt_blind, va_recv hK hP (ci := 8) (q0 := 94) rfl (zt_a8 (rfl : zt_kd 94 = 8)), fun U hU hW => ⟨rfl, zt_go hE hP hS zt_id hU hW⟩⟩ rfl rfl hl.1 rfl (lv_room (Nat.le_of_ble_eq_true rfl)) dX9_resolves_251 ⟨Nat.zero_le _, Nat.zero_le _⟩) hS (fun _ _ h => h) (fun _ h => h) (fun r u t H locs ht hvm hw hB _ _ hS => ?_)
        rw [hw.1]; have hB : zt_B G u t := hB; rw [hw.2] at hB; have hP := zt_B.P hB ht
        exact B254 rc28 hrc28 σ v66 u2 u3 u4 u5 u6 u7 u8 u9 u10 u11 _ _ _ hf hP hS (lv_sub hl [1, 2, 3, 4, 5, 6, 7, 8, 9, 10, 11] rfl)
      · have hf := (if_neg c65).symm.trans hf
        refine lv_iconst (v := (-1)) hx hb dX9_resolves_243 (by decide) ?_
        refine lv_goto (tgt := 254) hx hb dX9_resolves_244 (by decide) ?_
        exact B254 rc28 hrc28 σ (-1) u2 u3 u4 u5 u6 u7 u8 u9 u10 u11 _ _ _ hf hP hS (lv_sub hl [1, 2, 3, 4, 5, 6, 7, 8, 9, 10, 11] rfl)
  have B175 : ∀ (rc28 : zt_St → Int32 → Int32 → Int32 → Int32 → Int32 → Int32 → Int32 → Int32 → Int32 → Int32 → Option (Int32 × zt_St)) (hrc28 : ∀ (σ : zt_St) (u2 : Int32) (u3 : Int32) (u4 : Int32) (u5 : Int32) (u6 : Int32) (u7 : Int32) (u8 : Int32) (u9 : Int32) (u10 : Int32) (u11 : Int32) (H : Heap) (locs : List Loc) (ls : Array Slot), rc28 σ u2 u3 u4 u5 u6 u7 u8 u9 u10 u11 = some (r, σ1) → va_P (zt_D G) vwCl (zt_ww G σ) H → va_S (zt_A G) s.heap H locs → lv_has ls 17 [(0, .ref (zt_ad G 94)), (2, .int u2), (3, .int u3), (4, .int u4), (5, .int u5), (6, .int u6), (7, .int u7), (8, .int u8), (9, .int u9), (10, .int u10), (11, .int u11)] → W p l e (zt_R 6 147) s m ([.ref (zt_ad G 94), .int x1, .int x2, .int x3, .int x4] : List Value).toArray below meth c H locs 0 0 (MQ below (zt_Ci G r σ1) ([.ref (zt_ad G 94), .int x1, .int x2, .int x3, .int x4] : List Value).toArray s 0 0 (zt_A G)) (F0 m 28 ls [])), ∀ (σ : zt_St) (u2 : Int32) (u3 : Int32) (u4 : Int32) (u5 : Int32) (u6 : Int32) (u7 : Int32) (u8 : Int32) (u9 : Int32) (u10 : Int32) (u11 : Int32) (H : Heap) (locs : List Loc) (ls : Array Slot), f_X9_resolves_175 rc28 σ u2 u3 u4 u5 u6 u7 u8 u9 u10 u11 = some (r, σ1) → va_P (zt_D G) vwCl (zt_ww G σ) H → va_S (zt_A G) s.heap H locs → lv_has ls 17 [(0, .ref (zt_ad G 94)), (2, .int u2), (3, .int u3), (4, .int u4), (5, .int u5), (6, .int u6), (7, .int u7), (8, .int u8), (9, .int u9), (10, .int u10), (11, .int u11)] → W p l e (zt_R 6 147) s m ([.ref (zt_ad G 94), .int x1, .int x2, .int x3, .int x4] : List Value).toArray below meth c H locs 0 0 (MQ below (zt_Ci G r σ1) ([.ref (zt_ad G 94), .int x1, .int x2, .int x3, .int x4] : List Value).toArray s 0 0 (zt_A G)) (F0 m 175 ls []) := by
    intro rc28 hrc28 σ u2 u3 u4 u5 u6 u7 u8 u9 u10 u11 H locs ls hf hP hS hl
    unfold f_X9_resolves_175 at hf
    refine lv_iload hx hb dX9_resolves_175 (lv_at hl 5 rfl) ?_
    refine lv_bipush (v := 12) hx hb dX9_resolves_177 (by decide +kernel) ?_
    refine lv_icmp_ne (tgt := 193) hx hb dX9_resolves_179 (by decide) (fun c27 => ?_) (fun c27 => ?_)
    · have hf := (if_neg c27).symm.trans hf
      refine lv_iinc (v := (u6 + 1)) (lv' := [(6, .int (u6 + 1)), (0, .ref (zt_ad G 94)), (2, .int u2), (3, .int u3), (4, .int u4), (5, .int u5), (7, .int u7), (8, .int u8), (9, .int u9), (10, .int u10), (11, .int u11)]) hx hb dX9_resolves_193 hl (k := 5) rfl rfl (by decide) rfl (fun ls hl => ?_)
      refine lv_aload_n hx hb dX9_resolves_196 rfl (lv_at hl 1 rfl) ?_
      refine va_get (D := zt_D G) (ci := 8) (v := .ref (zt_ad G 99)) (C := RX9) (T := TX9) (N := 37) hx hb hts inX9 hown hK hP 94 (zt_a8 (rfl : zt_kd 94 = 8)) rfl 7 (by decide) fl26 (fun _ h9 => h9) rfl dX9_resolves_197 ?_
      refine lv_iload hx hb dX9_resolves_200 (lv_at hl 9 rfl) ?_
      obtain ⟨g28, hf⟩ := zt_gd_some hf
      refine va_zald hx hb hK hP 99 1 zt_a_99 rfl (zt_gI_in g28) dX9_resolves_202 ?_
      refine lv_if_ne (tgt := 211) hx hb dX9_resolves_203 (by decide) (fun c29 => ?_) (fun c29 => ?_)
      · have hf := (if_neg c29).symm.trans hf
        refine lv_aload_n hx hb dX9_resolves_211 rfl (lv_at hl 1 rfl) ?_
        refine va_get (D := zt_D G) (ci := 8) (v := .ref (zt_ad G 98)) (C := RX9) (T := TX9) (N := 37) hx hb hts inX9 hown hK hP 94 (zt_a8 (rfl : zt_kd 94 = 8)) rfl 6 (by decide) fl23 (fun _ h9 => h9) rfl dX9_resolves_212 ?_
        refine lv_iload hx hb dX9_resolves_215 (lv_at hl 9 rfl) ?_
        obtain ⟨g30, hf⟩ := zt_gd_some hf
        refine va_iald hx hb hK hP 98 0 zt_a_98 rfl (zt_gI_in g30) dX9_resolves_217 ?_
        refine lv_iconst (v := (-1)) hx hb dX9_resolves_218 (by decide) ?_
        refine lv_icmp_eq (tgt := 230) hx hb dX9_resolves_219 (by decide) (fun c31 => ?_) (fun c31 => ?_)
        · have hf := (if_pos c31).symm.trans hf
          refine lv_iconst (v := (-1)) hx hb dX9_resolves_230 (by decide) ?_
          exact B231 rc28 hrc28 σ (-1) u2 u3 u4 u5 (u6 + 1) u7 u8 u9 u10 u11 _ _ _ hf hP hS (lv_sub hl [1, 2, 3, 4, 5, 0, 6, 7, 8, 9, 10] rfl)
        · have hf := (if_neg c31).symm.trans hf
          refine lv_bipush (v := 6) hx hb dX9_resolves_222 (by decide +kernel) ?_
          refine lv_iload hx hb dX9_resolves_224 (lv_at hl 9 rfl) ?_
          refine lv_iadd hx hb dX9_resolves_226 ?_
          refine lv_goto (tgt := 231) hx hb dX9_resolves_227 (by decide) ?_
          exact B231 rc28 hrc28 σ (6 + u10) u2 u3 u4 u5 (u6 + 1) u7 u8 u9 u10 u11 _ _ _ hf hP hS (lv_sub hl [1, 2, 3, 4, 5, 0, 6, 7, 8, 9, 10] rfl)
      · have hf := (if_pos c29).symm.trans hf
        refine lv_iload hx hb dX9_resolves_206 (lv_at hl 9 rfl) ?_
        refine lv_goto (tgt := 231) hx hb dX9_resolves_208 (by decide) ?_
        exact B231 rc28 hrc28 σ u10 u2 u3 u4 u5 (u6 + 1) u7 u8 u9 u10 u11 _ _ _ hf hP hS (lv_sub hl [1, 2, 3, 4, 5, 0, 6, 7, 8, 9, 10] rfl)
    · have hf := (if_pos c27).symm.trans hf
      refine lv_aload_n hx hb dX9_resolves_182 rfl (lv_at hl 0 rfl) ?_
      refine lv_iload hx hb dX9_resolves_183 (lv_at hl 5 rfl) ?_
      refine lv_iload hx hb dX9_resolves_185 (lv_at hl 8 rfl) ?_
      refine lv_iload hx hb dX9_resolves_187 (lv_at hl 3 rfl) ?_
      obtain ⟨⟨v32a, σ33a⟩, hvv32, hf⟩ := zt_bd_some hf
      obtain ⟨v32, hv32, hf⟩ := zt_lt_some hf; obtain ⟨σ33, hσ33, hf⟩ := zt_lt_some hf; rw [show (v32a, σ33a) = (v32, σ33) from by rw [hv32, hσ33]] at hvv32
      refine va_calli (va_runV (As := [.int u6, .int u9, .int u4]) (rest := []) ⟨hx, hb, hml, hown, hts⟩ (m_X9_fails l G (σ := σ) hvv32) (cwV 3 hts gX9_resolves_X9_fails rfl rfl rfl zh_X9_fails ⟨Nat.le_of_ble_eq_true rfl, Nat.le_of_ble_eq_true rfl⟩) ⟨zt_blind, va_recv hK hP (ci := 8) (q0 := 94) rfl (zt_a8 (rfl : zt_kd 94 = 8)), fun U hU hW => ⟨rfl, zt_go hE hP hS zt_id hU hW⟩⟩ rfl rfl hl.1 rfl (lv_room (Nat.le_of_ble_eq_true rfl)) dX9_resolves_189 ⟨Nat.zero_le _, Nat.zero_le _⟩) hS (fun _ _ h => h) (fun _ h => h) (fun r u t H locs ht hvm hw hB _ _ hS => ?_)
      rw [hw.1]; have hB : zt_B G u t := hB; rw [hw.2] at hB; have hP := zt_B.P hB ht
      exact W.iret hx hb hr (fun t ht hW => ⟨⟨_, _, rfl, (Prod.mk.inj (Option.some.inj hf)), zt_go hE hP hS zt_id ht hW⟩, hS.F ht⟩) hS.2.2 dX9_resolves_192
  have B173 : ∀ (rc28 : zt_St → Int32 → Int32 → Int32 → Int32 → Int32 → Int32 → Int32 → Int32 → Int32 → Int32 → Option (Int32 × zt_St)) (hrc28 : ∀ (σ : zt_St) (u2 : Int32) (u3 : Int32) (u4 : Int32) (u5 : Int32) (u6 : Int32) (u7 : Int32) (u8 : Int32) (u9 : Int32) (u10 : Int32) (u11 : Int32) (H : Heap) (locs : List Loc) (ls : Array Slot), rc28 σ u2 u3 u4 u5 u6 u7 u8 u9 u10 u11 = some (r, σ1) → va_P (zt_D G) vwCl (zt_ww G σ) H → va_S (zt_A G) s.heap H locs → lv_has ls 17 [(0, .ref (zt_ad G 94)), (2, .int u2), (3, .int u3), (4, .int u4), (5, .int u5), (6, .int u6), (7, .int u7), (8, .int u8), (9, .int u9), (10, .int u10), (11, .int u11)] → W p l e (zt_R 6 147) s m ([.ref (zt_ad G 94), .int x1, .int x2, .int x3, .int x4] : List Value).toArray below meth c H locs 0 0 (MQ below (zt_Ci G r σ1) ([.ref (zt_ad G 94), .int x1, .int x2, .int x3, .int x4] : List Value).toArray s 0 0 (zt_A G)) (F0 m 28 ls [])), ∀ (σ : zt_St) (y0 : Int32) (u2 : Int32) (u3 : Int32) (u4 : Int32) (u5 : Int32) (u6 : Int32) (u7 : Int32) (u8 : Int32) (u9 : Int32) (u10 : Int32) (H : Heap) (locs : List Loc) (ls : Array Slot), f_X9_resolves_173 rc28 σ y0 u2 u3 u4 u5 u6 u7 u8 u9 u10 = some (r, σ1) → va_P (zt_D G) vwCl (zt_ww G σ) H → va_S (zt_A G) s.heap H locs → lv_has ls 17 [(0, .ref (zt_ad G 94)), (2, .int u2), (3, .int u3), (4, .int u4), (5, .int u5), (6, .int u6), (7, .int u7), (8, .int u8), (9, .int u9), (10, .int u10)] → W p l e (zt_R 6 147) s m ([.ref (zt_ad G 94), .int x1, .int x2, .int x3, .int x4] : List Value).toArray below meth c H locs 0 0 (MQ below (zt_Ci G r σ1) ([.ref (zt_ad G 94), .int x1, .int x2, .int x3, .int x4] : List Value).toArray s 0 0 (zt_A G)) (F0 m 173 ls [.int y0]) := by
    intro rc28 hrc28 σ y0 u2 u3 u4 u5 u6 u7 u8 u9 u10 H locs ls hf hP hS hl
    unfold f_X9_resolves_173 at hf
    refine lv_istore (lv' := [(11, .int y0), (0, .ref (zt_ad G 94)), (2, .int u2), (3, .int u3), (4, .int u4), (5, .int u5), (6, .int u6), (7, .int u7), (8, .int u8), (9, .int u9), (10, .int u10)]) hx hb dX9_resolves_173 hl (by decide) rfl (fun ls hl => ?_)
    exact B175 rc28 hrc28 σ u2 u3 u4 u5 u6 u7 u8 u9 u10 y0 _ _ _ hf hP hS (lv_sub hl [1, 2, 3, 4, 5, 6, 7, 8, 9, 10, 0] rfl)
  have B124 : ∀ (rc28 : zt_St → Int32 → Int32 → Int32 → Int32 → Int32 → Int32 → Int32 → Int32 → Int32 → Int32 → Option (Int32 × zt_St)) (hrc28 : ∀ (σ : zt_St) (u2 : Int32) (u3 : Int32) (u4 : Int32) (u5 : Int32) (u6 : Int32) (u7 : Int32) (u8 : Int32) (u9 : Int32) (u10 : Int32) (u11 : Int32) (H : Heap) (locs : List Loc) (ls : Array Slot), rc28 σ u2 u3 u4 u5 u6 u7 u8 u9 u10 u11 = some (r, σ1) → va_P (zt_D G) vwCl (zt_ww G σ) H → va_S (zt_A G) s.heap H locs → lv_has ls 17 [(0, .ref (zt_ad G 94)), (2, .int u2), (3, .int u3), (4, .int u4), (5, .int u5), (6, .int u6), (7, .int u7), (8, .int u8), (9, .int u9), (10, .int u10), (11, .int u11)] → W p l e (zt_R 6 147) s m ([.ref (zt_ad G 94), .int x1, .int x2, .int x3, .int x4] : List Value).toArray below meth c H locs 0 0 (MQ below (zt_Ci G r σ1) ([.ref (zt_ad G 94), .int x1, .int x2, .int x3, .int x4] : List Value).toArray s 0 0 (zt_A G)) (F0 m 28 ls [])), ∀ (σ : zt_St) (u2 : Int32) (u3 : Int32) (u4 : Int32) (u5 : Int32) (u6 : Int32) (u7 : Int32) (u8 : Int32) (u9 : Int32) (u10 : Int32) (u11 : Int32) (H : Heap) (locs : List Loc) (ls : Array Slot), f_X9_resolves_124 rc28 σ u2 u3 u4 u5 u6 u7 u8 u9 u10 u11 = some (r, σ1) → va_P (zt_D G) vwCl (zt_ww G σ) H → va_S (zt_A G) s.heap H locs → lv_has ls 17 [(0, .ref (zt_ad G 94)), (2, .int u2), (3, .int u3), (4, .int u4), (5, .int u5), (6, .int u6), (7, .int u7), (8, .int u8), (9, .int u9), (10, .int u10), (11, .int u11)] → W p l e (zt_R 6 147) s m ([.ref (zt_ad G 94), .int x1, .int x2, .int x3, .int x4] : List Value).toArray below meth c H locs 0 0 (MQ below (zt_Ci G r σ1) ([.ref (zt_ad G 94), .int x1, .int x2, .int x3, .int x4] : List Value).toArray s 0 0 (zt_A G)) (F0 m 124 ls []) := by
    intro rc28 hrc28 σ u2 u3 u4 u5 u6 u7 u8 u9 u10 u11 H locs ls hf hP hS hl
    unfold f_X9_resolves_124 at hf
    refine lv_iload hx hb dX9_resolves_124 (lv_at hl 9 rfl) ?_
    refine lv_iconst (v := (-1)) hx hb dX9_resolves_126 (by decide) ?_
    refine lv_icmp_ne (tgt := 175) hx hb dX9_resolves_127 (by decide) (fun c16 => ?_) (fun c16 => ?_)
    · have hf := (if_neg c16).symm.trans hf
      exact B175 rc28 hrc28 σ u2 u3 u4 u5 u6 u7 u8 u9 u10 u11 _ _ _ hf hP hS (lv_sub hl [0, 1, 2, 3, 4, 5, 6, 7, 8, 9, 10] rfl)
    · have hf := (if_pos c16).symm.trans hf
      refine lv_aload_n hx hb dX9_resolves_130 rfl (lv_at hl 0 rfl) ?_
      refine lv_iload hx hb dX9_resolves_131 (lv_at hl 4 rfl) ?_
      refine lv_iload_n hx hb dX9_resolves_133 rfl (lv_at hl 1 rfl) ?_
      refine lv_iload_n hx hb dX9_resolves_134 rfl (lv_at hl 2 rfl) ?_
      obtain ⟨v17, hvv17, hf⟩ := zt_bd_some hf
      refine va_calli (va_runV (As := [.int u5, .int u2, .int u3]) (rest := []) ⟨hx, hb, hml, hown, hts⟩ (m_X9_bestZone l G (σ := σ) hvv17) (cwV 3 hts gX9_resolves_X9_bestZone rfl rfl rfl zh_X9_bestZone ⟨Nat.le_of_ble_eq_true rfl, Nat.le_of_ble_eq_true rfl⟩) ⟨zt_blind, va_recv hK hP (ci := 8) (q0 := 94) rfl (zt_a8 (rfl : zt_kd 94 = 8)), fun U hU hW => ⟨rfl, zt_go hE hP hS zt_id hU hW⟩⟩ rfl rfl hl.1 rfl (lv_room (Nat.le_of_ble_eq_true rfl)) dX9_resolves_135 ⟨Nat.zero_le _, Nat.zero_le _⟩) hS (fun _ _ h => h) (fun _ h => h) (fun r u t H locs ht hvm hw hB _ _ hS => ?_)
      rw [hw.1]; have hB : zt_B G u t := hB; rw [hw.2] at hB; have hP := zt_B.P hB ht
      refine lv_istore (lv' := [(10, .int v17), (0, .ref (zt_ad G 94)), (2, .int u2), (3, .int u3), (4, .int u4), (5, .int u5), (6, .int u6), (7, .int u7), (8, .int u8), (9, .int u9), (11, .int u11)]) hx hb dX9_resolves_138 hl (by decide) rfl (fun ls hl => ?_)
      refine lv_aload_n hx hb dX9_resolves_140 rfl (lv_at hl 1 rfl) ?_
      refine va_get (D := zt_D G) (ci := 8) (v := .int (σ 94 11)) (C := RX9) (T := TX9) (N := 37) hx hb hts inX9 hown hK hP 94 (zt_a8 (rfl : zt_kd 94 = 8)) rfl 11 (by decide) fl39 (fun _ h9 => h9) rfl dX9_resolves_141 ?_
      refine lv_iconst (v := (-1)) hx hb dX9_resolves_144 (by decide) ?_
      refine lv_icmp_ne (tgt := 152) hx hb dX9_resolves_145 (by decide) (fun c19 => ?_) (fun c19 => ?_)
      · have hf := (if_neg c19).symm.trans hf
        refine lv_aload_n hx hb dX9_resolves_152 rfl (lv_at hl 1 rfl) ?_
        refine lv_iconst (v := 0) hx hb dX9_resolves_153 (by decide) ?_
        refine lv_aload_n hx hb dX9_resolves_154 rfl (lv_at hl 1 rfl) ?_
        refine lv_aload_n hx hb dX9_resolves_155 rfl (lv_at hl 1 rfl) ?_
        refine va_get (D := zt_D G) (ci := 8) (v := .int (σ 94 11)) (C := RX9) (T := TX9) (N := 37) hx hb hts inX9 hown hK hP 94 (zt_a8 (rfl : zt_kd 94 = 8)) rfl 11 (by decide) fl39 (fun _ h9 => h9) rfl dX9_resolves_156 ?_
        obtain ⟨v20, hvv20, hf⟩ := zt_bd_some hf
        refine va_calli (va_runV (As := [.int (σ 94 11)]) (rest := [.int 0, .ref (zt_ad G 94)]) ⟨hx, hb, hml, hown, hts⟩ (m_X9_code l G (σ := σ) hvv20) (cwV 1 hts gX9_resolves_X9_code rfl rfl rfl zh_X9_code ⟨Nat.le_of_ble_eq_true rfl, Nat.le_of_ble_eq_true rfl⟩) ⟨zt_blind, va_recv hK hP (ci := 8) (q0 := 94) rfl (zt_a8 (rfl : zt_kd 94 = 8)), fun U hU hW => ⟨rfl, zt_go hE hP hS zt_id hU hW⟩⟩ rfl rfl hl.1 rfl (lv_room (Nat.le_of_ble_eq_true rfl)) dX9_resolves_159 ⟨Nat.zero_le _, Nat.zero_le _⟩) hS (fun _ _ h => h) (fun _ h => h) (fun r u t H locs ht hvm hw hB _ _ hS => ?_)
        rw [hw.1]; have hB : zt_B G u t := hB; rw [hw.2] at hB; have hP := zt_B.P hB ht
        obtain ⟨v22, hvv22, hf⟩ := zt_bd_some hf
        refine va_calli (va_runV (As := [.int 0, .int v20]) (rest := []) ⟨hx, hb, hml, hown, hts⟩ (m_X9_isGood l G (σ := σ) hvv22) (cwV 2 hts gX9_resolves_X9_isGood rfl rfl rfl zh_X9_isGood ⟨Nat.le_of_ble_eq_true rfl, Nat.le_of_ble_eq_true rfl⟩) ⟨zt_blind, va_recv hK hP (ci := 8) (q0 := 94) rfl (zt_a8 (rfl : zt_kd 94 = 8)), fun U hU hW => ⟨rfl, zt_go hE hP hS zt_id hU hW⟩⟩ rfl rfl hl.1 rfl (lv_room (Nat.le_of_ble_eq_true rfl)) dX9_resolves_162 ⟨Nat.zero_le _, Nat.zero_le _⟩) hS (fun _ _ h => h) (fun _ h => h) (fun r u t H locs ht hvm hw hB _ _ hS => ?_)
        rw [hw.1]; have hB : zt_B G u t := hB; rw [hw.2] at hB; have hP := zt_B.P hB ht
        refine lv_if_eq (tgt := 172) hx hb dX9_resolves_165 (by decide) (fun c24 => ?_) (fun c24 => ?_)
        · have hf := (if_pos c24).symm.trans hf
          refine lv_iconst (v := 2) hx hb dX9_resolves_172 (by decide) ?_
          exact B173 rc28 hrc28 σ 2 u2 u3 u4 u5 u6 u7 u8 u9 v17 _ _ _ hf hP hS (lv_sub hl [1, 2, 3, 4, 5, 6, 7, 8, 9, 0] rfl)
        · have hf := (if_neg c24).symm.trans hf
          refine lv_iconst (v := 0) hx hb dX9_resolves_168 (by decide) ?_
          refine lv_goto (tgt := 173) hx hb dX9_resolves_169 (by decide) ?_
          exact B173 rc28 hrc28 σ 0 u2 u3 u4 u5 u6 u7 u8 u9 v17 _ _ _ hf hP hS (lv_sub hl [1, 2, 3, 4, 5, 6, 7, 8, 9, 0] rfl)
      · have hf := (if_pos c19).symm.trans hf
        refine lv_iconst (v := 1) hx hb dX9_resolves_148 (by decide) ?_
        refine lv_goto (tgt := 173) hx hb dX9_resolves_149 (by decide) ?_
        exact B173 rc28 hrc28 σ 1 u2 u3 u4 u5 u6 u7 u8 u9 v17 _ _ _ hf hP hS (lv_sub hl [1, 2, 3, 4, 5, 6, 7, 8, 9, 0] rfl)
  have B49 : ∀ (rc28 : zt_St → Int32 → Int32 → Int32 → Int32 → Int32 → Int32 → Int32 → Int32 → Int32 → Int32 → Option (Int32 × zt_St)) (hrc28 : ∀ (σ : zt_St) (u2 : Int32) (u3 : Int32) (u4 : Int32) (u5 : Int32) (u6 : Int32) (u7 : Int32) (u8 : Int32) (u9 : Int32) (u10 : Int32) (u11 : Int32) (H : Heap) (locs : List Loc) (ls : Array Slot), rc28 σ u2 u3 u4 u5 u6 u7 u8 u9 u10 u11 = some (r, σ1) → va_P (zt_D G) vwCl (zt_ww G σ) H → va_S (zt_A G) s.heap H locs → lv_has ls 17 [(0, .ref (zt_ad G 94)), (2, .int u2), (3, .int u3), (4, .int u4), (5, .int u5), (6, .int u6), (7, .int u7), (8, .int u8), (9, .int u9), (10, .int u10), (11, .int u11)] → W p l e (zt_R 6 147) s m ([.ref (zt_ad G 94), .int x1, .int x2, .int x3, .int x4] : List Value).toArray below meth c H locs 0 0 (MQ below (zt_Ci G r σ1) ([.ref (zt_ad G 94), .int x1, .int x2, .int x3, .int x4] : List Value).toArray s 0 0 (zt_A G)) (F0 m 28 ls [])), ∀ (σ : zt_St) (y0 : Int32) (u2 : Int32) (u3 : Int32) (u4 : Int32) (u5 : Int32) (u6 : Int32) (u7 : Int32) (u8 : Int32) (u9 : Int32) (u10 : Int32) (u11 : Int32) (H : Heap) (locs : List Loc) (ls : Array Slot), f_X9_resolves_49 rc28 σ y0 u2 u3 u4 u5 u6 u7 u8 u9 u10 u11 = some (r, σ1) → va_P (zt_D G) vwCl (zt_ww G σ) H → va_S (zt_A G) s.heap H locs → lv_has ls 17 [(0, .ref (zt_ad G 94)), (2, .int u2), (3, .int u3), (4, .int u4), (5, .int u5), (6, .int u6), (7, .int u7), (8, .int u8), (9, .int u9), (10, .int u10), (11, .int u11)] → W p l e (zt_R 6 147) s m ([.ref (zt_ad G 94), .int x1, .int x2, .int x3, .int x4] : List Value).toArray below meth c H locs 0 0 (MQ below (zt_Ci G r σ1) ([.ref (zt_ad G 94), .int x1, .int x2, .int x3, .int x4] : List Value).toArray s 0 0 (zt_A G)) (F0 m 49 ls [.int y0]) := by
    intro rc28 hrc28 σ y0 u2 u3 u4 u5 u6 u7 u8 u9 u10 u11 H locs ls hf hP hS hl
    unfold f_X9_resolves_49 at hf
    refine lv_istore (lv' := [(12, .int y0), (0, .ref (zt_ad G 94)), (2, .int u2), (3, .int u3), (4, .int u4), (5, .int u5), (6, .int u6), (7, .int u7), (8, .int u8), (9, .int u9), (10, .int u10), (11, .int u11)]) hx hb dX9_resolves_49 hl (by decide) rfl (fun ls hl => ?_)
    refine lv_iconst (v := (-1)) hx hb dX9_resolves_51 (by decide) ?_
    refine lv_istore (lv' := [(13, .int (-1)), (12, .int y0), (0, .ref (zt_ad G 94)), (2, .int u2), (3, .int u3), (4, .int u4), (5, .int u5), (6, .int u6), (7, .int u7), (8, .int u8), (9, .int u9), (10, .int u10), (11, .int u11)]) hx hb dX9_resolves_52 hl (by decide) rfl (fun ls hl => ?_)
    refine lv_iload hx hb dX9_resolves_54 (lv_at hl 1 rfl) ?_
    refine lv_iconst (v := (-1)) hx hb dX9_resolves_56 (by decide) ?_
    refine lv_icmp_eq (tgt := 124) hx hb dX9_resolves_57 (by decide) (fun c6 => ?_) (fun c6 => ?_)
    · have hf := (if_pos c6).symm.trans hf
      exact B124 rc28 hrc28 σ u2 u3 u4 u5 u6 u7 u8 u9 u10 u11 _ _ _ hf hP hS (lv_sub hl [2, 3, 4, 5, 6, 7, 8, 9, 10, 11, 12] rfl)
    · have hf := (if_neg c6).symm.trans hf
      refine lv_aload_n hx hb dX9_resolves_60 rfl (lv_at hl 2 rfl) ?_
      refine va_get (D := zt_D G) (ci := 8) (v := .int (σ 94 1)) (C := RX9) (T := TX9) (N := 37) hx hb hts inX9 hown hK hP 94 (zt_a8 (rfl : zt_kd 94 = 8)) rfl 1 (by decide) fl248 (fun _ h9 => h9) rfl dX9_resolves_61 ?_
      refine lv_aload_n hx hb dX9_resolves_64 rfl (lv_at hl 2 rfl) ?_
      refine va_get (D := zt_D G) (ci := 8) (v := .ref (zt_ad G 120)) (C := RX9) (T := TX9) (N := 37) hx hb hts inX9 hown hK hP 94 (zt_a8 (rfl : zt_kd 94 = 8)) rfl 31 (by decide) fl93 (fun _ h9 => h9) rfl dX9_resolves_65 ?_
      refine lv_iload hx hb dX9_resolves_68 (lv_at hl 1 rfl) ?_
      obtain ⟨g7, hf⟩ := zt_gd_some hf
      refine va_iald hx hb hK hP 120 0 zt_a_120 rfl (zt_gI_in g7) dX9_resolves_70 ?_
      refine lv_aload_n hx hb dX9_resolves_71 rfl (lv_at hl 2 rfl) ?_
      refine va_get (D := zt_D G) (ci := 8) (v := .ref (zt_ad G 119)) (C := RX9) (T := TX9) (N := 37) hx hb hts inX9 hown hK hP 94 (zt_a8 (rfl : zt_kd 94 = 8)) rfl 30 (by decide) fl90 (fun _ h9 => h9) rfl dX9_resolves_72 ?_
      refine lv_iload hx hb dX9_resolves_75 (lv_at hl 1 rfl) ?_
      obtain ⟨g8, hf⟩ := zt_gd_some hf
      refine va_iald hx hb hK hP 119 0 zt_a_119 rfl (zt_gI_in g8) dX9_resolves_77 ?_
      refine lv_iadd hx hb dX9_resolves_78 ?_
      refine lv_icmp_ge (tgt := 124) hx hb dX9_resolves_79 (by decide) (fun c9 => ?_) (fun c9 => ?_)
      · have hf := (if_pos c9).symm.trans hf
        exact B124 rc28 hrc28 σ u2 u3 u4 u5 u6 u7 u8 u9 u10 u11 _ _ _ hf hP hS (lv_sub hl [2, 3, 4, 5, 6, 7, 8, 9, 10, 11, 12] rfl)
      · have hf := (if_neg c9).symm.trans hf
        refine lv_aload_n hx hb dX9_resolves_82 rfl (lv_at hl 2 rfl) ?_
        refine va_get (D := zt_D G) (ci := 8) (v := .ref (zt_ad G 116)) (C := RX9) (T := TX9) (N := 37) hx hb hts inX9 hown hK hP 94 (zt_a8 (rfl : zt_kd 94 = 8)) rfl 27 (by decide) fl81 (fun _ h9 => h9) rfl dX9_resolves_83 ?_
        refine lv_iload hx hb dX9_resolves_86 (lv_at hl 1 rfl) ?_
        obtain ⟨g10, hf⟩ := zt_gd_some hf
        refine va_iald hx hb hK hP 116 0 zt_a_116 rfl (zt_gI_in g10) dX9_resolves_88 ?_
        refine lv_istore (lv' := [(13, .int (σ 116 y0.toNatClampNeg)), (12, .int y0), (0, .ref (zt_ad G 94)), (2, .int u2), (3, .int u3), (4, .int u4), (5, .int u5), (6, .int u6), (7, .int u7), (8, .int u8), (9, .int u9), (10, .int u10), (11, .int u11)]) hx hb dX9_resolves_89 hl (by decide) rfl (fun ls hl => ?_)
        refine lv_aload_n hx hb dX9_resolves_91 rfl (lv_at hl 2 rfl) ?_
        refine lv_iload hx hb dX9_resolves_92 (lv_at hl 1 rfl) ?_
        obtain ⟨σ12, hvv11, hf⟩ := zt_bd_some hf
        refine va_callv (va_runV (As := [.int y0]) (rest := []) ⟨hx, hb, hml, hown, hts⟩ (m_X9_takes l G (σ := σ) hvv11) (cwV 1 hts gX9_resolves_X9_takes rfl rfl rfl zh_X9_takes ⟨Nat.le_of_ble_eq_true rfl, Nat.le_of_ble_eq_true rfl⟩) ⟨zt_blind, va_recv hK hP (ci := 8) (q0 := 94) rfl (zt_a8 (rfl : zt_kd 94 = 8)), fun U hU hW => ⟨rfl, zt_go hE hP hS zt_id hU hW⟩⟩ rfl rfl hl.1 rfl (lv_room (Nat.le_of_ble_eq_true rfl)) dX9_resolves_94 ⟨Nat.zero_le _, Nat.zero_le _⟩) hS (fun _ _ h => h) (fun _ h => h) (fun u t H locs ht hvm hw hB _ _ hS => ?_)
        have hB : zt_B G u t := hB; rw [hw] at hB; have hP := zt_B.P hB ht
        refine lv_aload_n hx hb dX9_resolves_97 rfl (lv_at hl 2 rfl) ?_
        refine lv_aload_n hx hb dX9_resolves_98 rfl (lv_at hl 2 rfl) ?_
        refine va_get (D := zt_D G) (ci := 8) (v := .ref (zt_ad G 120)) (C := RX9) (T := TX9) (N := 37) hx hb hts inX9 hown hK hP 94 (zt_a8 (rfl : zt_kd 94 = 8)) rfl 31 (by decide) fl93 (fun _ h9 => h9) rfl dX9_resolves_99 ?_
        refine lv_iload hx hb dX9_resolves_102 (lv_at hl 1 rfl) ?_
        obtain ⟨g13, hf⟩ := zt_gd_some hf
        refine va_iald hx hb hK hP 120 0 zt_a_120 rfl (zt_gI_in g13) dX9_resolves_104 ?_
        refine lv_aload_n hx hb dX9_resolves_105 rfl (lv_at hl 2 rfl) ?_
        refine va_get (D := zt_D G) (ci := 8) (v := .ref (zt_ad G 119)) (C := RX9) (T := TX9) (N := 37) hx hb hts inX9 hown hK hP 94 (zt_a8 (rfl : zt_kd 94 = 8)) rfl 30 (by decide) fl90 (fun _ h9 => h9) rfl dX9_resolves_106 ?_
        refine lv_iload hx hb dX9_resolves_109 (lv_at hl 1 rfl) ?_
        obtain ⟨g14, hf⟩ := zt_gd_some hf
        refine va_iald hx hb hK hP 119 0 zt_a_119 rfl (zt_gI_in g14) dX9_resolves_111 ?_
        refine lv_iadd hx hb dX9_resolves_112 ?_
        refine lv_aload_n hx hb dX9_resolves_113 rfl (lv_at hl 2 rfl) ?_
        refine va_get (D := zt_D G) (ci := 8) (v := .int (σ12 94 1)) (C := RX9) (T := TX9) (N := 37) hx hb hts inX9 hown hK hP 94 (zt_a8 (rfl : zt_kd 94 = 8)) rfl 1 (by decide) fl248 (fun _ h9 => h9) rfl dX9_resolves_114 ?_
        refine lv_isub hx hb dX9_resolves_117 ?_
        obtain ⟨σ15, hσ15, hf⟩ := zt_lt_some hf
        refine va_put (D := zt_D G) (ci := 8) (v := .int (((σ12 120 y0.toNatClampNeg) + (σ12 119 y0.toNatClampNeg)) - (σ12 94 1))) (ty := .int) (C := RX9) (T := TX9) (N := 37) hx hb hts inX9 tyX9 tyX9_ok nmX9 hown hK hP (zt_apart hE.1) hS 94 (zt_a8 (rfl : zt_kd 94 = 8)) rfl 34 (by decide) fl199 (fun _ h9 => h9) rfl (tyX9_ok 34 (by decide)) rfl rfl (Nat.le_of_ble_eq_true rfl) dX9_resolves_118 (fun H locs hP _ hS => ?_)
        rw [zt_p8_34 (rfl : zt_kd 94 = 8), ← hσ15] at hP
        refine lv_goto (tgt := 449) hx hb dX9_resolves_121 (by decide) ?_
        exact B449 rc28 hrc28 σ15 u2 u3 u4 u5 u6 u7 u8 u9 u10 u11 (σ 116 y0.toNatClampNeg) _ _ _ hf hP hS (lv_sub hl [2, 3, 4, 5, 6, 7, 8, 9, 10, 11, 12, 0] rfl)
  have B38 : ∀ (rc28 : zt_St → Int32 → Int32 → Int32 → Int32 → Int32 → Int32 → Int32 → Int32 → Int32 → Int32 → Option (Int32 × zt_St)) (hrc28 : ∀ (σ : zt_St) (u2 : Int32) (u3 : Int32) (u4 : Int32) (u5 : Int32) (u6 : Int32) (u7 : Int32) (u8 : Int32) (u9 : Int32) (u10 : Int32) (u11 : Int32) (H : Heap) (locs : List Loc) (ls : Array Slot), rc28 σ u2 u3 u4 u5 u6 u7 u8 u9 u10 u11 = some (r, σ1) → va_P (zt_D G) vwCl (zt_ww G σ) H → va_S (zt_A G) s.heap H locs → lv_has ls 17 [(0, .ref (zt_ad G 94)), (2, .int u2), (3, .int u3), (4, .int u4), (5, .int u5), (6, .int u6), (7, .int u7), (8, .int u8), (9, .int u9), (10, .int u10), (11, .int u11)] → W p l e (zt_R 6 147) s m ([.ref (zt_ad G 94), .int x1, .int x2, .int x3, .int x4] : List Value).toArray below meth c H locs 0 0 (MQ below (zt_Ci G r σ1) ([.ref (zt_ad G 94), .int x1, .int x2, .int x3, .int x4] : List Value).toArray s 0 0 (zt_A G)) (F0 m 28 ls [])), ∀ (σ : zt_St) (u2 : Int32) (u3 : Int32) (u4 : Int32) (u5 : Int32) (u6 : Int32) (u7 : Int32) (u8 : Int32) (u9 : Int32) (u10 : Int32) (u11 : Int32) (H : Heap) (locs : List Loc) (ls : Array Slot), f_X9_resolves_38 rc28 σ u2 u3 u4 u5 u6 u7 u8 u9 u10 u11 = some (r, σ1) → va_P (zt_D G) vwCl (zt_ww G σ) H → va_S (zt_A G) s.heap H locs → lv_has ls 17 [(0, .ref (zt_ad G 94)), (2, .int u2), (3, .int u3), (4, .int u4), (5, .int u5), (6, .int u6), (7, .int u7), (8, .int u8), (9, .int u9), (10, .int u10), (11, .int u11)] → W p l e (zt_R 6 147) s m ([.ref (zt_ad G 94), .int x1, .int x2, .int x3, .int x4] : List Value).toArray below meth c H locs 0 0 (MQ below (zt_Ci G r σ1) ([.ref (zt_ad G 94), .int x1, .int x2, .int x3, .int x4] : List Value).toArray s 0 0 (zt_A G)) (F0 m 38 ls []) := by
    intro rc28 hrc28 σ u2 u3 u4 u5 u6 u7 u8 u9 u10 u11 H locs ls hf hP hS hl
    unfold f_X9_resolves_38 at hf
    refine lv_iconst (v := (-1)) hx hb dX9_resolves_38 (by decide) ?_
    refine lv_goto (tgt := 49) hx hb dX9_resolves_39 (by decide) ?_
    exact B49 rc28 hrc28 σ (-1) u2 u3 u4 u5 u6 u7 u8 u9 u10 u11 _ _ _ hf hP hS (lv_sub hl [0, 1, 2, 3, 4, 5, 6, 7, 8, 9, 10] rfl)
  have B28 : ∀ (n : Nat), ∀ (σ : zt_St) (u2 : Int32) (u3 : Int32) (u4 : Int32) (u5 : Int32) (u6 : Int32) (u7 : Int32) (u8 : Int32) (u9 : Int32) (u10 : Int32) (u11 : Int32) (H : Heap) (locs : List Loc) (ls : Array Slot), f_X9_resolves_28 n σ u2 u3 u4 u5 u6 u7 u8 u9 u10 u11 = some (r, σ1) → va_P (zt_D G) vwCl (zt_ww G σ) H → va_S (zt_A G) s.heap H locs → lv_has ls 17 [(0, .ref (zt_ad G 94)), (2, .int u2), (3, .int u3), (4, .int u4), (5, .int u5), (6, .int u6), (7, .int u7), (8, .int u8), (9, .int u9), (10, .int u10), (11, .int u11)] → W p l e (zt_R 6 147) s m ([.ref (zt_ad G 94), .int x1, .int x2, .int x3, .int x4] : List Value).toArray below meth c H locs 0 0 (MQ below (zt_Ci G r σ1) ([.ref (zt_ad G 94), .int x1, .int x2, .int x3, .int x4] : List Value).toArray s 0 0 (zt_A G)) (F0 m 28 ls []) := by
    intro n
    induction n with
    | zero => intro σ u2 u3 u4 u5 u6 u7 u8 u9 u10 u11 H locs ls hf; exact nomatch hf
    | succ n hrc28 =>
      intro σ u2 u3 u4 u5 u6 u7 u8 u9 u10 u11 H locs ls hf hP hS hl
      generalize hrcg : f_X9_resolves_28 n = rc28 at hrc28
      have hf : f_X9_resolves_28b rc28 σ u2 u3 u4 u5 u6 u7 u8 u9 u10 u11 = some (r, σ1) := by rw [← hrcg]; exact hf
      unfold f_X9_resolves_28b at hf
      refine lv_iload_n hx hb dX9_resolves_28 rfl (lv_at hl 2 rfl) ?_
      refine lv_if_ne (tgt := 38) hx hb dX9_resolves_29 (by decide) (fun c2 => ?_) (fun c2 => ?_)
      · have hf := (if_neg c2).symm.trans hf
        exact B38 rc28 hrc28 σ u2 u3 u4 u5 u6 u7 u8 u9 u10 u11 _ _ _ hf hP hS (lv_sub hl [0, 1, 2, 3, 4, 5, 6, 7, 8, 9, 10] rfl)
      · have hf := (if_pos c2).symm.trans hf
        refine lv_iload hx hb dX9_resolves_32 (lv_at hl 9 rfl) ?_
        refine lv_iconst (v := (-1)) hx hb dX9_resolves_34 (by decide) ?_
        refine lv_icmp_eq (tgt := 42) hx hb dX9_resolves_35 (by decide) (fun c3 => ?_) (fun c3 => ?_)
        · have hf := (if_pos c3).symm.trans hf
          refine lv_aload_n hx hb dX9_resolves_42 rfl (lv_at hl 0 rfl) ?_
          refine lv_iload hx hb dX9_resolves_43 (lv_at hl 4 rfl) ?_
          refine lv_iload_n hx hb dX9_resolves_45 rfl (lv_at hl 1 rfl) ?_
          obtain ⟨v4, hvv4, hf⟩ := zt_bd_some hf
          refine va_calli (va_runV (As := [.int u5, .int u2]) (rest := []) ⟨hx, hb, hml, hown, hts⟩ (m_X9_keptOf l G (σ := σ) hvv4) (cwV 2 hts gX9_resolves_X9_keptOf rfl rfl rfl zh_X9_keptOf ⟨Nat.le_of_ble_eq_true rfl, Nat.le_of_ble_eq_true rfl⟩) ⟨zt_blind, va_recv hK hP (ci := 8) (q0 := 94) rfl (zt_a8 (rfl : zt_kd 94 = 8)), fun U hU hW => ⟨rfl, zt_go hE hP hS zt_id hU hW⟩⟩ rfl rfl hl.1 rfl (lv_room (Nat.le_of_ble_eq_true rfl)) dX9_resolves_46 ⟨Nat.zero_le _, Nat.zero_le _⟩) hS (fun _ _ h => h) (fun _ h => h) (fun r u t H locs ht hvm hw hB _ _ hS => ?_)
          rw [hw.1]; have hB : zt_B G u t := hB; rw [hw.2] at hB; have hP := zt_B.P hB ht
          exact B49 rc28 hrc28 σ v4 u2 u3 u4 u5 u6 u7 u8 u9 u10 u11 _ _ _ hf hP hS (lv_sub hl [0, 1, 2, 3, 4, 5, 6, 7, 8, 9, 10] rfl)
        · have hf := (if_neg c3).symm.trans hf
          exact B38 rc28 hrc28 σ u2 u3 u4 u5 u6 u7 u8 u9 u10 u11 _ _ _ hf hP hS (lv_sub hl [0, 1, 2, 3, 4, 5, 6, 7, 8, 9, 10] rfl)
  unfold f_X9_resolves at hf
  refine lv_iload_n hx hb dX9_resolves_0 rfl (lv_at hl 1 rfl) ?_
  refine lv_istore (lv' := [(5, .int x1), (0, .ref (zt_ad G 94)), (1, .int x1), (2, .int x2), (3, .int x3), (4, .int x4)]) hx hb dX9_resolves_1 hl (by decide) rfl (fun ls hl => ?_)
  refine lv_iconst (v := 0) hx hb dX9_resolves_3 (by decide) ?_
  refine lv_istore (lv' := [(6, .int 0), (5, .int x1), (0, .ref (zt_ad G 94)), (1, .int x1), (2, .int x2), (3, .int x3), (4, .int x4)]) hx hb dX9_resolves_4 hl (by decide) rfl (fun ls hl => ?_)
  refine lv_iconst (v := 0) hx hb dX9_resolves_6 (by decide) ?_
  refine lv_istore (lv' := [(7, .int 0), (6, .int 0), (5, .int x1), (0, .ref (zt_ad G 94)), (1, .int x1), (2, .int x2), (3, .int x3), (4, .int x4)]) hx hb dX9_resolves_7 hl (by decide) rfl (fun ls hl => ?_)
  refine lv_sipush (v := 1000) hx hb dX9_resolves_9 (by decide +kernel) ?_
  refine lv_istore (lv' := [(8, .int 1000), (7, .int 0), (6, .int 0), (5, .int x1), (0, .ref (zt_ad G 94)), (1, .int x1), (2, .int x2), (3, .int x3), (4, .int x4)]) hx hb dX9_resolves_12 hl (by decide) rfl (fun ls hl => ?_)
  refine lv_iconst (v := 0) hx hb dX9_resolves_14 (by decide) ?_
  refine lv_istore (lv' := [(9, .int 0), (8, .int 1000), (7, .int 0), (6, .int 0), (5, .int x1), (0, .ref (zt_ad G 94)), (1, .int x1), (2, .int x2), (3, .int x3), (4, .int x4)]) hx hb dX9_resolves_15 hl (by decide) rfl (fun ls hl => ?_)
  refine lv_aload_n hx hb dX9_resolves_17 rfl (lv_at hl 5 rfl) ?_
  refine lv_iconst (v := 0) hx hb dX9_resolves_18 (by decide) ?_
  obtain ⟨σ1, hσ1, hf⟩ := zt_lt_some hf
  refine va_put (D := zt_D G) (ci := 8) (v := .int 0) (ty := .int) (C := RX9) (T := TX9) (N := 37) hx hb hts inX9 tyX9 tyX9_ok nmX9 hown hK hP (zt_apart hE.1) hS 94 (zt_a8 (rfl : zt_kd 94 = 8)) rfl 36 (by decide) fl254 (fun _ h9 => h9) rfl (tyX9_ok 36 (by decide)) rfl rfl (Nat.le_of_ble_eq_true rfl) dX9_resolves_19 (fun H locs hP _ hS => ?_)
  rw [zt_p8_36 (rfl : zt_kd 94 = 8), ← hσ1] at hP
  refine lv_iconst (v := (-1)) hx hb dX9_resolves_22 (by decide) ?_
  refine lv_istore (lv' := [(10, .int (-1)), (9, .int 0), (8, .int 1000), (7, .int 0), (6, .int 0), (5, .int x1), (0, .ref (zt_ad G 94)), (1, .int x1), (2, .int x2), (3, .int x3), (4, .int x4)]) hx hb dX9_resolves_23 hl (by decide) rfl (fun ls hl => ?_)
  refine lv_iconst (v := 0) hx hb dX9_resolves_25 (by decide) ?_
  refine lv_istore (lv' := [(11, .int 0), (10, .int (-1)), (9, .int 0), (8, .int 1000), (7, .int 0), (6, .int 0), (5, .int x1), (0, .ref (zt_ad G 94)), (1, .int x1), (2, .int x2), (3, .int x3), (4, .int x4)]) hx hb dX9_resolves_26 hl (by decide) rfl (fun ls hl => ?_)
  exact B28 zt_FU σ1 x2 x3 x4 x1 0 0 1000 0 (-1) 0 _ _ _ hf hP hS (lv_sub hl [7, 9, 10, 11, 6, 5, 4, 3, 2, 1, 0] rfl)

theorem zh_X9_isAsked : yX9_isAsked.cls ≠ "java/lang/invoke/MethodHandle" ∧ yX9_isAsked.cls ≠ "java/lang/invoke/VarHandle" ∧ (parseMethodDescriptor yX9_isAsked.desc).map (fun d => d.parameters.length) = some 2 := by decide +kernel
set_option maxHeartbeats 4000000 in
set_option maxRecDepth 100000 in
theorem m_X9_isAsked (l : Launch) (G : zt_G) {σ : zt_St} {x0 : Int32} {x1 : Int32} {r : Int32} (hf : f_X9_isAsked x0 x1 = some r) : zt_Mi l G yX9_isAsked wsX9_isAsked 2 44 [.int x0, .int x1] σ r σ := by
  refine Met.ofW (cc := cX9_isAsked) (maxL := 2) (ret := (some .boolean)) (by decide) rfl ?_
  intro p e s m args below meth c s₁ B hml hv
  obtain ⟨rfl, hBB⟩ := hv
  have hE := zt_B.env hBB; have hK := hE.2.1; have hP := hBB.2.1
  have hx := B.exec; have hb := B.bytes; have hr := B.returns; have hts := atoms_spec (ws := wsX9_isAsked) B.pre
  have hown : s.vm.findClass RX9 = some m.cls := findClass_of_methodNamed B.named
  have hlocks := B.notSynchronized
  have hS : va_S (zt_A G) s.heap s.heap [] := va_S.rf
  have hl := lv_entry ([.int x0, .int x1]) (n := 2) (Nat.le_of_ble_eq_true rfl)
  rw [lg_entry_eq]
  generalize (lg_sl ([.int x0, .int x1]) ++ List.replicate (2 - (lg_sl ([.int x0, .int x1])).length) Slot.unset).toArray = ls at hl ⊢
  have hl : lv_has ls 2 [(0, .int x0), (1, .int x1)] := hl
  show W p l e (zt_R 2 44) s m ([.int x0, .int x1] : List Value).toArray below meth c s.heap [] 0 0 (MQ below (zt_Ci G r σ) ([.int x0, .int x1] : List Value).toArray s 0 0 (zt_A G)) (F0 m 0 ls [])
  unfold f_X9_isAsked at hf
  refine lv_iload_n hx hb dX9_isAsked_0 rfl (lv_at hl 0 rfl) ?_
  obtain ⟨v1, hvv1, hf⟩ := zt_bd_some hf
  refine va_calli (va_runS (As := [.int x0]) (rest := []) ⟨hx, hb, hml, hown, hts⟩ (m_X9_isName l G (σ := σ) hvv1) (va_cwS 1 hts gX9_isAsked_X9_isName rfl rfl rfl zh_X9_isName ⟨Nat.le_of_ble_eq_true rfl, Nat.le_of_ble_eq_true rfl⟩) ⟨zt_blind, fun U hU hW => ⟨rfl, zt_go hE hP hS zt_id hU hW⟩⟩ rfl rfl hl.1 rfl (lv_room (Nat.le_of_ble_eq_true rfl)) dX9_isAsked_1 ⟨Nat.zero_le _, Nat.zero_le _⟩) hS (fun _ _ h => h) (fun _ h => h) (fun r u t H locs ht hvm hw hB _ _ hS => ?_)
  rw [hw.1]; have hB : zt_B G u t := hB; rw [hw.2] at hB; have hP := zt_B.P hB ht
  refine lv_if_eq (tgt := 20) hx hb dX9_isAsked_4 (by decide) (fun c3 => ?_) (fun c3 => ?_)
  · have hf := (if_pos c3).symm.trans hf
    refine lv_iconst (v := 0) hx hb dX9_isAsked_20 (by decide) ?_
    exact W.zret hx hb hr (zt_bn (by decide)).1 (fun t ht hW => ⟨⟨_, _, rfl, ⟨Option.some.inj hf, rfl⟩, zt_go hE hP hS zt_id ht hW⟩, hS.F ht⟩) hS.2.2 dX9_isAsked_21
  · have hf := (if_neg c3).symm.trans hf
    refine lv_iload_n hx hb dX9_isAsked_7 rfl (lv_at hl 1 rfl) ?_
    refine lv_iconst (v := 0) hx hb dX9_isAsked_8 (by decide) ?_
    refine lv_iconst (v := 4) hx hb dX9_isAsked_9 (by decide) ?_
    obtain ⟨v4, hvv4, hf⟩ := zt_bd_some hf
    refine va_calli (va_runS (As := [.int x1, .int 0, .int 4]) (rest := []) ⟨hx, hb, hml, hown, hts⟩ (m_X9_in l G (σ := σ) hvv4) (va_cwS 3 hts gX9_isAsked_X9_in rfl rfl rfl zh_X9_in ⟨Nat.le_of_ble_eq_true rfl, Nat.le_of_ble_eq_true rfl⟩) ⟨zt_blind, fun U hU hW => ⟨rfl, zt_go hE hP hS zt_id hU hW⟩⟩ rfl rfl hl.1 rfl (lv_room (Nat.le_of_ble_eq_true rfl)) dX9_isAsked_10 ⟨Nat.zero_le _, Nat.zero_le _⟩) hS (fun _ _ h => h) (fun _ h => h) (fun r u t H locs ht hvm hw hB _ _ hS => ?_)
    rw [hw.1]; have hB : zt_B G u t := hB; rw [hw.2] at hB; have hP := zt_B.P hB ht
    refine lv_if_eq (tgt := 20) hx hb dX9_isAsked_13 (by decide) (fun c6 => ?_) (fun c6 => ?_)
    · have hf := (if_pos c6).symm.trans hf
      refine lv_iconst (v := 0) hx hb dX9_isAsked_20 (by decide) ?_
      exact W.zret hx hb hr (zt_bn (by decide)).1 (fun t ht hW => ⟨⟨_, _, rfl, ⟨Option.some.inj hf, rfl⟩, zt_go hE hP hS zt_id ht hW⟩, hS.F ht⟩) hS.2.2 dX9_isAsked_21
    · have hf := (if_neg c6).symm.trans hf
      refine lv_iconst (v := 1) hx hb dX9_isAsked_16 (by decide) ?_
      refine lv_goto (tgt := 21) hx hb dX9_isAsked_17 (by decide) ?_
      exact W.zret hx hb hr (zt_bn (by decide)).1 (fun t ht hW => ⟨⟨_, _, rfl, ⟨Option.some.inj hf, rfl⟩, zt_go hE hP hS zt_id ht hW⟩, hS.F ht⟩) hS.2.2 dX9_isAsked_21

theorem zh_X9_resolve : yX9_resolve.cls = RX9 ∧ yX9_resolve.cls ≠ "java/lang/invoke/MethodHandle" ∧ yX9_resolve.cls ≠ "java/lang/invoke/VarHandle" ∧ (parseMethodDescriptor yX9_resolve.desc).map (fun d => d.parameters.length) = some 2 := by decide +kernel
set_option maxHeartbeats 4000000 in
set_option maxRecDepth 100000 in
theorem m_X9_resolve (l : Launch) (G : zt_G) {σ : zt_St} {x1 : Int32} {x2 : Int32} {r : Int32} {σ1 : zt_St} (hf : f_X9_resolve σ x1 x2 = some (r, σ1)) : zt_Mi l G yX9_resolve wsX9_resolve 7 183 [.ref (zt_ad G 94), .int x1, .int x2] σ r σ1 := by
  refine Met.ofW (cc := cX9_resolve) (maxL := 3) (ret := (some .int)) (by decide) rfl ?_
  intro p e s m args below meth c s₁ B hml hv
  obtain ⟨rfl, hBB⟩ := hv
  have hE := zt_B.env hBB; have hK := hE.2.1; have hP := hBB.2.1
  have hx := B.exec; have hb := B.bytes; have hr := B.returns; have hts := atoms_spec (ws := wsX9_resolve) B.pre
  have hown : s.vm.findClass RX9 = some m.cls := findClass_of_methodNamed B.named
  have hlocks := B.notSynchronized
  have hS : va_S (zt_A G) s.heap s.heap [] := va_S.rf
  have hl := lv_entry ([.ref (zt_ad G 94), .int x1, .int x2]) (n := 3) (Nat.le_of_ble_eq_true rfl)
  rw [lg_entry_eq]
  generalize (lg_sl ([.ref (zt_ad G 94), .int x1, .int x2]) ++ List.replicate (3 - (lg_sl ([.ref (zt_ad G 94), .int x1, .int x2])).length) Slot.unset).toArray = ls at hl ⊢
  have hl : lv_has ls 3 [(0, .ref (zt_ad G 94)), (1, .int x1), (2, .int x2)] := hl
  show W p l e (zt_R 7 183) s m ([.ref (zt_ad G 94), .int x1, .int x2] : List Value).toArray below meth c s.heap [] 0 0 (MQ below (zt_Ci G r σ1) ([.ref (zt_ad G 94), .int x1, .int x2] : List Value).toArray s 0 0 (zt_A G)) (F0 m 0 ls [])
  unfold f_X9_resolve at hf
  refine lv_aload_n hx hb dX9_resolve_0 rfl (lv_at hl 0 rfl) ?_
  refine lv_iload_n hx hb dX9_resolve_1 rfl (lv_at hl 1 rfl) ?_
  refine lv_iload_n hx hb dX9_resolve_2 rfl (lv_at hl 2 rfl) ?_
  obtain ⟨v1, hvv1, hf⟩ := zt_bd_some hf
  refine va_calli (va_runS (As := [.int x1, .int x2]) (rest := [.ref (zt_ad G 94)]) ⟨hx, hb, hml, hown, hts⟩ (m_X9_isAsked l G (σ := σ) hvv1) (va_cwS 2 hts gX9_resolve_X9_isAsked rfl rfl rfl zh_X9_isAsked ⟨Nat.le_of_ble_eq_true rfl, Nat.le_of_ble_eq_true rfl⟩) ⟨zt_blind, fun U hU hW => ⟨rfl, zt_go hE hP hS zt_id hU hW⟩⟩ rfl rfl hl.1 rfl (lv_room (Nat.le_of_ble_eq_true rfl)) dX9_resolve_3 ⟨Nat.zero_le _, Nat.zero_le _⟩) hS (fun _ _ h => h) (fun _ h => h) (fun r u t H locs ht hvm hw hB _ _ hS => ?_)
  rw [hw.1]; have hB : zt_B G u t := hB; rw [hw.2] at hB; have hP := zt_B.P hB ht
  obtain ⟨⟨v3a, σ4a⟩, hvv3, hf⟩ := zt_bd_some hf
  obtain ⟨v3, hv3, hf⟩ := zt_lt_some hf; obtain ⟨σ4, hσ4, hf⟩ := zt_lt_some hf; rw [show (v3a, σ4a) = (v3, σ4) from by rw [hv3, hσ4]] at hvv3
  refine va_calli (va_runV (As := [.int v1]) (rest := []) ⟨hx, hb, hml, hown, hts⟩ (m_X9_asked l G (σ := σ) hvv3) (cwV 1 hts gX9_resolve_X9_asked rfl rfl rfl zh_X9_asked ⟨Nat.le_of_ble_eq_true rfl, Nat.le_of_ble_eq_true rfl⟩) ⟨zt_blind, va_recv hK hP (ci := 8) (q0 := 94) rfl (zt_a8 (rfl : zt_kd 94 = 8)), fun U hU hW => ⟨rfl, zt_go hE hP hS zt_id hU hW⟩⟩ rfl rfl hl.1 rfl (lv_room (Nat.le_of_ble_eq_true rfl)) dX9_resolve_6 ⟨Nat.zero_le _, Nat.zero_le _⟩) hS (fun _ _ h => h) (fun _ h => h) (fun r u t H locs ht hvm hw hB _ _ hS => ?_)
  rw [hw.1]; have hB : zt_B G u t := hB; rw [hw.2] at hB; have hP := zt_B.P hB ht
  refine lv_if_eq (tgt := 23) hx hb dX9_resolve_9 (by decide) (fun c6 => ?_) (fun c6 => ?_)
  · have hf := (if_pos c6).symm.trans hf
    refine lv_iconst (v := 0) hx hb dX9_resolve_23 (by decide) ?_
    exact W.iret hx hb hr (fun t ht hW => ⟨⟨_, _, rfl, (Prod.mk.inj (Option.some.inj hf)), zt_go hE hP hS zt_id ht hW⟩, hS.F ht⟩) hS.2.2 dX9_resolve_24
  · have hf := (if_neg c6).symm.trans hf
    refine lv_aload_n hx hb dX9_resolve_12 rfl (lv_at hl 0 rfl) ?_
    refine lv_iload_n hx hb dX9_resolve_13 rfl (lv_at hl 1 rfl) ?_
    refine lv_iload_n hx hb dX9_resolve_14 rfl (lv_at hl 2 rfl) ?_
    refine lv_iconst (v := 0) hx hb dX9_resolve_15 (by decide) ?_
    refine lv_iconst (v := 1) hx hb dX9_resolve_16 (by decide) ?_
    obtain ⟨⟨v7a, σ8a⟩, hvv7, hf⟩ := zt_bd_some hf
    obtain ⟨v7, hv7, hf⟩ := zt_lt_some hf; obtain ⟨σ8, hσ8, hf⟩ := zt_lt_some hf; rw [show (v7a, σ8a) = (v7, σ8) from by rw [hv7, hσ8]] at hvv7
    refine va_calli (va_runV (As := [.int x1, .int x2, .int 0, .int 1]) (rest := []) ⟨hx, hb, hml, hown, hts⟩ (m_X9_resolves l G (σ := σ4) hvv7) (cwV 4 hts gX9_resolve_X9_resolves rfl rfl rfl zh_X9_resolves ⟨Nat.le_of_ble_eq_true rfl, Nat.le_of_ble_eq_true rfl⟩) ⟨zt_blind, va_recv hK hP (ci := 8) (q0 := 94) rfl (zt_a8 (rfl : zt_kd 94 = 8)), fun U hU hW => ⟨rfl, zt_go hE hP hS zt_id hU hW⟩⟩ rfl rfl hl.1 rfl (lv_room (Nat.le_of_ble_eq_true rfl)) dX9_resolve_17 ⟨Nat.zero_le _, Nat.zero_le _⟩) hS (fun _ _ h => h) (fun _ h => h) (fun r u t H locs ht hvm hw hB _ _ hS => ?_)
    rw [hw.1]; have hB : zt_B G u t := hB; rw [hw.2] at hB; have hP := zt_B.P hB ht
    refine lv_goto (tgt := 24) hx hb dX9_resolve_20 (by decide) ?_
    exact W.iret hx hb hr (fun t ht hW => ⟨⟨_, _, rfl, (Prod.mk.inj (Option.some.inj hf)), zt_go hE hP hS zt_id ht hW⟩, hS.F ht⟩) hS.2.2 dX9_resolve_24

theorem zh_X9_resolveAnew : yX9_resolveAnew.cls = RX9 ∧ yX9_resolveAnew.cls ≠ "java/lang/invoke/MethodHandle" ∧ yX9_resolveAnew.cls ≠ "java/lang/invoke/VarHandle" ∧ (parseMethodDescriptor yX9_resolveAnew.desc).map (fun d => d.parameters.length) = some 2 := by decide +kernel
set_option maxHeartbeats 4000000 in
set_option maxRecDepth 100000 in
theorem m_X9_resolveAnew (l : Launch) (G : zt_G) {σ : zt_St} {x1 : Int32} {x2 : Int32} {r : Int32} {σ1 : zt_St} (hf : f_X9_resolveAnew σ x1 x2 = some (r, σ1)) : zt_Mi l G yX9_resolveAnew wsX9_resolveAnew 7 183 [.ref (zt_ad G 94), .int x1, .int x2] σ r σ1 := by
  refine Met.ofW (cc := cX9_resolveAnew) (maxL := 3) (ret := (some .int)) (by decide) rfl ?_
  intro p e s m args below meth c s₁ B hml hv
  obtain ⟨rfl, hBB⟩ := hv
  have hE := zt_B.env hBB; have hK := hE.2.1; have hP := hBB.2.1
  have hx := B.exec; have hb := B.bytes; have hr := B.returns; have hts := atoms_spec (ws := wsX9_resolveAnew) B.pre
  have hown : s.vm.findClass RX9 = some m.cls := findClass_of_methodNamed B.named
  have hlocks := B.notSynchronized
  have hS : va_S (zt_A G) s.heap s.heap [] := va_S.rf
  have hl := lv_entry ([.ref (zt_ad G 94), .int x1, .int x2]) (n := 3) (Nat.le_of_ble_eq_true rfl)
  rw [lg_entry_eq]
  generalize (lg_sl ([.ref (zt_ad G 94), .int x1, .int x2]) ++ List.replicate (3 - (lg_sl ([.ref (zt_ad G 94), .int x1, .int x2])).length) Slot.unset).toArray = ls at hl ⊢
  have hl : lv_has ls 3 [(0, .ref (zt_ad G 94)), (1, .int x1), (2, .int x2)] := hl
  show W p l e (zt_R 7 183) s m ([.ref (zt_ad G 94), .int x1, .int x2] : List Value).toArray below meth c s.heap [] 0 0 (MQ below (zt_Ci G r σ1) ([.ref (zt_ad G 94), .int x1, .int x2] : List Value).toArray s 0 0 (zt_A G)) (F0 m 0 ls [])
  unfold f_X9_resolveAnew at hf
  refine lv_aload_n hx hb dX9_resolveAnew_0 rfl (lv_at hl 0 rfl) ?_
  refine lv_iload_n hx hb dX9_resolveAnew_1 rfl (lv_at hl 1 rfl) ?_
  refine lv_iload_n hx hb dX9_resolveAnew_2 rfl (lv_at hl 2 rfl) ?_
  obtain ⟨v1, hvv1, hf⟩ := zt_bd_some hf
  refine va_calli (va_runS (As := [.int x1, .int x2]) (rest := [.ref (zt_ad G 94)]) ⟨hx, hb, hml, hown, hts⟩ (m_X9_isAsked l G (σ := σ) hvv1) (va_cwS 2 hts gX9_resolveAnew_X9_isAsked rfl rfl rfl zh_X9_isAsked ⟨Nat.le_of_ble_eq_true rfl, Nat.le_of_ble_eq_true rfl⟩) ⟨zt_blind, fun U hU hW => ⟨rfl, zt_go hE hP hS zt_id hU hW⟩⟩ rfl rfl hl.1 rfl (lv_room (Nat.le_of_ble_eq_true rfl)) dX9_resolveAnew_3 ⟨Nat.zero_le _, Nat.zero_le _⟩) hS (fun _ _ h => h) (fun _ h => h) (fun r u t H locs ht hvm hw hB _ _ hS => ?_)
  rw [hw.1]; have hB : zt_B G u t := hB; rw [hw.2] at hB; have hP := zt_B.P hB ht
  obtain ⟨⟨v3a, σ4a⟩, hvv3, hf⟩ := zt_bd_some hf
  obtain ⟨v3, hv3, hf⟩ := zt_lt_some hf; obtain ⟨σ4, hσ4, hf⟩ := zt_lt_some hf; rw [show (v3a, σ4a) = (v3, σ4) from by rw [hv3, hσ4]] at hvv3
  refine va_calli (va_runV (As := [.int v1]) (rest := []) ⟨hx, hb, hml, hown, hts⟩ (m_X9_asked l G (σ := σ) hvv3) (cwV 1 hts gX9_resolveAnew_X9_asked rfl rfl rfl zh_X9_asked ⟨Nat.le_of_ble_eq_true rfl, Nat.le_of_ble_eq_true rfl⟩) ⟨zt_blind, va_recv hK hP (ci := 8) (q0 := 94) rfl (zt_a8 (rfl : zt_kd 94 = 8)), fun U hU hW => ⟨rfl, zt_go hE hP hS zt_id hU hW⟩⟩ rfl rfl hl.1 rfl (lv_room (Nat.le_of_ble_eq_true rfl)) dX9_resolveAnew_6 ⟨Nat.zero_le _, Nat.zero_le _⟩) hS (fun _ _ h => h) (fun _ h => h) (fun r u t H locs ht hvm hw hB _ _ hS => ?_)
  rw [hw.1]; have hB : zt_B G u t := hB; rw [hw.2] at hB; have hP := zt_B.P hB ht
  refine lv_if_eq (tgt := 23) hx hb dX9_resolveAnew_9 (by decide) (fun c6 => ?_) (fun c6 => ?_)
  · have hf := (if_pos c6).symm.trans hf
    refine lv_iconst (v := 0) hx hb dX9_resolveAnew_23 (by decide) ?_
    exact W.iret hx hb hr (fun t ht hW => ⟨⟨_, _, rfl, (Prod.mk.inj (Option.some.inj hf)), zt_go hE hP hS zt_id ht hW⟩, hS.F ht⟩) hS.2.2 dX9_resolveAnew_24
  · have hf := (if_neg c6).symm.trans hf
    refine lv_aload_n hx hb dX9_resolveAnew_12 rfl (lv_at hl 0 rfl) ?_
    refine lv_iload_n hx hb dX9_resolveAnew_13 rfl (lv_at hl 1 rfl) ?_
    refine lv_iload_n hx hb dX9_resolveAnew_14 rfl (lv_at hl 2 rfl) ?_
    refine lv_iconst (v := 1) hx hb dX9_resolveAnew_15 (by decide) ?_
    refine lv_iconst (v := 1) hx hb dX9_resolveAnew_16 (by decide) ?_
    obtain ⟨⟨v7a, σ8a⟩, hvv7, hf⟩ := zt_bd_some hf
    obtain ⟨v7, hv7, hf⟩ := zt_lt_some hf; obtain ⟨σ8, hσ8, hf⟩ := zt_lt_some hf; rw [show (v7a, σ8a) = (v7, σ8) from by rw [hv7, hσ8]] at hvv7
    refine va_calli (va_runV (As := [.int x1, .int x2, .int 1, .int 1]) (rest := []) ⟨hx, hb, hml, hown, hts⟩ (m_X9_resolves l G (σ := σ4) hvv7) (cwV 4 hts gX9_resolveAnew_X9_resolves rfl rfl rfl zh_X9_resolves ⟨Nat.le_of_ble_eq_true rfl, Nat.le_of_ble_eq_true rfl⟩) ⟨zt_blind, va_recv hK hP (ci := 8) (q0 := 94) rfl (zt_a8 (rfl : zt_kd 94 = 8)), fun U hU hW => ⟨rfl, zt_go hE hP hS zt_id hU hW⟩⟩ rfl rfl hl.1 rfl (lv_room (Nat.le_of_ble_eq_true rfl)) dX9_resolveAnew_17 ⟨Nat.zero_le _, Nat.zero_le _⟩) hS (fun _ _ h => h) (fun _ h => h) (fun r u t H locs ht hvm hw hB _ _ hS => ?_)
    rw [hw.1]; have hB : zt_B G u t := hB; rw [hw.2] at hB; have hP := zt_B.P hB ht
    refine lv_goto (tgt := 24) hx hb dX9_resolveAnew_20 (by decide) ?_
    exact W.iret hx hb hr (fun t ht hW => ⟨⟨_, _, rfl, (Prod.mk.inj (Option.some.inj hf)), zt_go hE hP hS zt_id ht hW⟩, hS.F ht⟩) hS.2.2 dX9_resolveAnew_24

theorem zh_X9_forget : yX9_forget.cls = RX9 ∧ yX9_forget.cls ≠ "java/lang/invoke/MethodHandle" ∧ yX9_forget.cls ≠ "java/lang/invoke/VarHandle" ∧ (parseMethodDescriptor yX9_forget.desc).map (fun d => d.parameters.length) = some 0 := by decide +kernel
set_option maxHeartbeats 4000000 in
set_option maxRecDepth 100000 in
theorem m_X9_forget (l : Launch) (G : zt_G) {σ : zt_St} {r : Int32} {σ1 : zt_St} (hf : f_X9_forget σ = some (r, σ1)) : zt_Mi l G yX9_forget wsX9_forget 0 0 [.ref (zt_ad G 94)] σ r σ1 := by
  refine Met.ofW (cc := cX9_forget) (maxL := 3) (ret := (some .int)) (by decide) rfl ?_
  intro p e s m args below meth c s₁ B hml hv
  obtain ⟨rfl, hBB⟩ := hv
  have hE := zt_B.env hBB; have hK := hE.2.1; have hP := hBB.2.1
  have hx := B.exec; have hb := B.bytes; have hr := B.returns; have hts := atoms_spec (ws := wsX9_forget) B.pre
  have hown : s.vm.findClass RX9 = some m.cls := findClass_of_methodNamed B.named
  have hlocks := B.notSynchronized
  have hS : va_S (zt_A G) s.heap s.heap [] := va_S.rf
  have hl := lv_entry ([.ref (zt_ad G 94)]) (n := 3) (Nat.le_of_ble_eq_true rfl)
  rw [lg_entry_eq]
  generalize (lg_sl ([.ref (zt_ad G 94)]) ++ List.replicate (3 - (lg_sl ([.ref (zt_ad G 94)])).length) Slot.unset).toArray = ls at hl ⊢
  have hl : lv_has ls 3 [(0, .ref (zt_ad G 94))] := hl
  show W p l e (zt_R 0 0) s m ([.ref (zt_ad G 94)] : List Value).toArray below meth c s.heap [] 0 0 (MQ below (zt_Ci G r σ1) ([.ref (zt_ad G 94)] : List Value).toArray s 0 0 (zt_A G)) (F0 m 0 ls [])
  have fl72 := hts (.fieldLink RX9 72 "ZoneTreeModel" "until" "[I") (List.mem_cons_of_mem _ (List.mem_append_left _ (List.mem_of_getElem? (i := 5) rfl)))
  have fl90 := hts (.fieldLink RX9 90 "ZoneTreeModel" "keptLife" "[I") (List.mem_cons_of_mem _ (List.mem_append_left _ (List.mem_of_getElem? (i := 4) rfl)))
  have fl93 := hts (.fieldLink RX9 93 "ZoneTreeModel" "keptAt" "[I") (List.mem_cons_of_mem _ (List.mem_append_left _ (List.mem_of_getElem? (i := 3) rfl)))
  have fl99 := hts (.fieldLink RX9 99 "ZoneTreeModel" "thrown" "I") (List.mem_cons_of_mem _ (List.mem_append_left _ (List.mem_of_getElem? (i := 0) rfl)))
  have fl238 := hts (.fieldLink RX9 238 "ZoneTreeModel" "kept" "I") (List.mem_cons_of_mem _ (List.mem_append_left _ (List.mem_of_getElem? (i := 1) rfl)))
  have fl248 := hts (.fieldLink RX9 248 "ZoneTreeModel" "now" "I") (List.mem_cons_of_mem _ (List.mem_append_left _ (List.mem_of_getElem? (i := 2) rfl)))
  have inX9 : ∀ w ∈ wsX90, w ∈ wsX9_forget := fun w h => (List.mem_cons_of_mem _ (List.mem_append_right _ h))
  have B58 : ∀ (n : Nat), ∀ (σ : zt_St) (u1 : Int32) (u2 : Int32) (H : Heap) (locs : List Loc) (ls : Array Slot), f_X9_forget_58 n σ u1 u2 = some (r, σ1) → va_P (zt_D G) vwCl (zt_ww G σ) H → va_S (zt_A G) s.heap H locs → lv_has ls 3 [(0, .ref (zt_ad G 94)), (1, .int u1), (2, .int u2)] → W p l e (zt_R 0 0) s m ([.ref (zt_ad G 94)] : List Value).toArray below meth c H locs 0 0 (MQ below (zt_Ci G r σ1) ([.ref (zt_ad G 94)] : List Value).toArray s 0 0 (zt_A G)) (F0 m 58 ls []) := by
    intro n
    induction n with
    | zero => intro σ u1 u2 H locs ls hf; exact nomatch hf
    | succ n hrc58 =>
      intro σ u1 u2 H locs ls hf hP hS hl
      generalize hrcg : f_X9_forget_58 n = rc58 at hrc58
      have hf : f_X9_forget_58b rc58 σ u1 u2 = some (r, σ1) := by rw [← hrcg]; exact hf
      unfold f_X9_forget_58b at hf
      refine lv_iload_n hx hb dX9_forget_58 rfl (lv_at hl 2 rfl) ?_
      refine lv_bipush (v := 6) hx hb dX9_forget_59 (by decide +kernel) ?_
      refine lv_icmp_ge (tgt := 77) hx hb dX9_forget_61 (by decide) (fun c7 => ?_) (fun c7 => ?_)
      · have hf := (if_pos c7).symm.trans hf
        refine lv_iload_n hx hb dX9_forget_77 rfl (lv_at hl 1 rfl) ?_
        exact W.iret hx hb hr (fun t ht hW => ⟨⟨_, _, rfl, (Prod.mk.inj (Option.some.inj hf)), zt_go hE hP hS zt_id ht hW⟩, hS.F ht⟩) hS.2.2 dX9_forget_78
      · have hf := (if_neg c7).symm.trans hf
        refine lv_aload_n hx hb dX9_forget_64 rfl (lv_at hl 0 rfl) ?_
        refine va_get (D := zt_D G) (ci := 8) (v := .ref (zt_ad G 113)) (C := RX9) (T := TX9) (N := 37) hx hb hts inX9 hown hK hP 94 (zt_a8 (rfl : zt_kd 94 = 8)) rfl 23 (by decide) fl72 (fun _ h9 => h9) rfl dX9_forget_65 ?_
        refine lv_iload_n hx hb dX9_forget_68 rfl (lv_at hl 2 rfl) ?_
        refine lv_iconst (v := 0) hx hb dX9_forget_69 (by decide) ?_
        obtain ⟨g8, hf⟩ := zt_gd_some hf
        obtain ⟨σ9, hσ9, hf⟩ := zt_lt_some hf
        refine va_iast hx hb hK hP (zt_apart hE.1) hS 113 0 zt_a_113 rfl (zt_gI_in g8) dX9_forget_70 (fun H locs hP _ hS => ?_)
        rw [zt_p_113, ← hσ9] at hP
        refine lv_iinc (v := (u2 + 1)) (lv' := [(2, .int (u2 + 1)), (0, .ref (zt_ad G 94)), (1, .int u1)]) hx hb dX9_forget_71 hl (k := 2) rfl rfl (by decide) rfl (fun ls hl => ?_)
        refine lv_goto (tgt := 58) hx hb dX9_forget_74 (by decide) ?_
        exact hrc58 σ9 u1 (u2 + 1) _ _ _ hf hP hS (lv_sub hl [1, 2, 0] rfl)
  have B43 : ∀ (rc9 : zt_St → Int32 → Int32 → Option (Int32 × zt_St)) (hrc9 : ∀ (σ : zt_St) (u1 : Int32) (u2 : Int32) (H : Heap) (locs : List Loc) (ls : Array Slot), rc9 σ u1 u2 = some (r, σ1) → va_P (zt_D G) vwCl (zt_ww G σ) H → va_S (zt_A G) s.heap H locs → lv_has ls 3 [(0, .ref (zt_ad G 94)), (1, .int u1), (2, .int u2)] → W p l e (zt_R 0 0) s m ([.ref (zt_ad G 94)] : List Value).toArray below meth c H locs 0 0 (MQ below (zt_Ci G r σ1) ([.ref (zt_ad G 94)] : List Value).toArray s 0 0 (zt_A G)) (F0 m 9 ls [])), ∀ (σ : zt_St) (y0 : Int32) (y1 : Int32) (u2 : Int32) (H : Heap) (locs : List Loc) (ls : Array Slot), f_X9_forget_43 rc9 σ y0 y1 u2 = some (r, σ1) → va_P (zt_D G) vwCl (zt_ww G σ) H → va_S (zt_A G) s.heap H locs → lv_has ls 3 [(0, .ref (zt_ad G 94)), (2, .int u2)] → W p l e (zt_R 0 0) s m ([.ref (zt_ad G 94)] : List Value).toArray below meth c H locs 0 0 (MQ below (zt_Ci G r σ1) ([.ref (zt_ad G 94)] : List Value).toArray s 0 0 (zt_A G)) (F0 m 43 ls [.int y0, .int y1]) := by
    intro rc9 hrc9 σ y0 y1 u2 H locs ls hf hP hS hl
    unfold f_X9_forget_43 at hf
    refine lv_iadd hx hb dX9_forget_43 ?_
    refine lv_istore_n (lv' := [(1, .int (y1 + y0)), (0, .ref (zt_ad G 94)), (2, .int u2)]) hx hb dX9_forget_44 rfl hl (by decide) rfl (fun ls hl => ?_)
    refine lv_iinc (v := (u2 + 1)) (lv' := [(2, .int (u2 + 1)), (1, .int (y1 + y0)), (0, .ref (zt_ad G 94))]) hx hb dX9_forget_45 hl (k := 2) rfl rfl (by decide) rfl (fun ls hl => ?_)
    refine lv_goto (tgt := 9) hx hb dX9_forget_48 (by decide) ?_
    exact hrc9 σ (y1 + y0) (u2 + 1) _ _ _ hf hP hS (lv_sub hl [2, 1, 0] rfl)
  have B9 : ∀ (n : Nat), ∀ (σ : zt_St) (u1 : Int32) (u2 : Int32) (H : Heap) (locs : List Loc) (ls : Array Slot), f_X9_forget_9 n σ u1 u2 = some (r, σ1) → va_P (zt_D G) vwCl (zt_ww G σ) H → va_S (zt_A G) s.heap H locs → lv_has ls 3 [(0, .ref (zt_ad G 94)), (1, .int u1), (2, .int u2)] → W p l e (zt_R 0 0) s m ([.ref (zt_ad G 94)] : List Value).toArray below meth c H locs 0 0 (MQ below (zt_Ci G r σ1) ([.ref (zt_ad G 94)] : List Value).toArray s 0 0 (zt_A G)) (F0 m 9 ls []) := by
    intro n
    induction n with
    | zero => intro σ u1 u2 H locs ls hf; exact nomatch hf
    | succ n hrc9 =>
      intro σ u1 u2 H locs ls hf hP hS hl
      generalize hrcg : f_X9_forget_9 n = rc9 at hrc9
      have hf : f_X9_forget_9b rc9 σ u1 u2 = some (r, σ1) := by rw [← hrcg]; exact hf
      unfold f_X9_forget_9b at hf
      refine lv_iload_n hx hb dX9_forget_9 rfl (lv_at hl 2 rfl) ?_
      refine lv_aload_n hx hb dX9_forget_10 rfl (lv_at hl 0 rfl) ?_
      refine va_get (D := zt_D G) (ci := 8) (v := .int (σ 94 24)) (C := RX9) (T := TX9) (N := 37) hx hb hts inX9 hown hK hP 94 (zt_a8 (rfl : zt_kd 94 = 8)) rfl 24 (by decide) fl238 (fun _ h9 => h9) rfl dX9_forget_11 ?_
      refine lv_icmp_ge (tgt := 51) hx hb dX9_forget_14 (by decide) (fun c2 => ?_) (fun c2 => ?_)
      · have hf := (if_pos c2).symm.trans hf
        refine lv_aload_n hx hb dX9_forget_51 rfl (lv_at hl 0 rfl) ?_
        refine lv_iconst (v := 0) hx hb dX9_forget_52 (by decide) ?_
        obtain ⟨σ3, hσ3, hf⟩ := zt_lt_some hf
        refine va_put (D := zt_D G) (ci := 8) (v := .int 0) (ty := .int) (C := RX9) (T := TX9) (N := 37) hx hb hts inX9 tyX9 tyX9_ok nmX9 hown hK hP (zt_apart hE.1) hS 94 (zt_a8 (rfl : zt_kd 94 = 8)) rfl 24 (by decide) fl238 (fun _ h9 => h9) rfl (tyX9_ok 24 (by decide)) rfl rfl (Nat.le_of_ble_eq_true rfl) dX9_forget_53 (fun H locs hP _ hS => ?_)
        rw [zt_p8_24 (rfl : zt_kd 94 = 8), ← hσ3] at hP
        refine lv_iconst (v := 0) hx hb dX9_forget_56 (by decide) ?_
        refine lv_istore_n (lv' := [(2, .int 0), (0, .ref (zt_ad G 94)), (1, .int u1)]) hx hb dX9_forget_57 rfl hl (by decide) rfl (fun ls hl => ?_)
        exact B58 zt_FU σ3 u1 0 _ _ _ hf hP hS (lv_sub hl [1, 2, 0] rfl)
      · have hf := (if_neg c2).symm.trans hf
        refine lv_iload_n hx hb dX9_forget_17 rfl (lv_at hl 1 rfl) ?_
        refine lv_aload_n hx hb dX9_forget_18 rfl (lv_at hl 0 rfl) ?_
        refine va_get (D := zt_D G) (ci := 8) (v := .int (σ 94 1)) (C := RX9) (T := TX9) (N := 37) hx hb hts inX9 hown hK hP 94 (zt_a8 (rfl : zt_kd 94 = 8)) rfl 1 (by decide) fl248 (fun _ h9 => h9) rfl dX9_forget_19 ?_
        refine lv_aload_n hx hb dX9_forget_22 rfl (lv_at hl 0 rfl) ?_
        refine va_get (D := zt_D G) (ci := 8) (v := .ref (zt_ad G 120)) (C := RX9) (T := TX9) (N := 37) hx hb hts inX9 hown hK hP 94 (zt_a8 (rfl : zt_kd 94 = 8)) rfl 31 (by decide) fl93 (fun _ h9 => h9) rfl dX9_forget_23 ?_
        refine lv_iload_n hx hb dX9_forget_26 rfl (lv_at hl 2 rfl) ?_
        obtain ⟨g4, hf⟩ := zt_gd_some hf
        refine va_iald hx hb hK hP 120 0 zt_a_120 rfl (zt_gI_in g4) dX9_forget_27 ?_
        refine lv_aload_n hx hb dX9_forget_28 rfl (lv_at hl 0 rfl) ?_
        refine va_get (D := zt_D G) (ci := 8) (v := .ref (zt_ad G 119)) (C := RX9) (T := TX9) (N := 37) hx hb hts inX9 hown hK hP 94 (zt_a8 (rfl : zt_kd 94 = 8)) rfl 30 (by decide) fl90 (fun _ h9 => h9) rfl dX9_forget_29 ?_
        refine lv_iload_n hx hb dX9_forget_32 rfl (lv_at hl 2 rfl) ?_
        obtain ⟨g5, hf⟩ := zt_gd_some hf
        refine va_iald hx hb hK hP 119 0 zt_a_119 rfl (zt_gI_in g5) dX9_forget_33 ?_
        refine lv_iadd hx hb dX9_forget_34 ?_
        refine lv_icmp_ge (tgt := 42) hx hb dX9_forget_35 (by decide) (fun c6 => ?_) (fun c6 => ?_)
        · have hf := (if_pos c6).symm.trans hf
          refine lv_iconst (v := 0) hx hb dX9_forget_42 (by decide) ?_
          exact B43 rc9 hrc9 σ 0 u1 u2 _ _ _ hf hP hS (lv_sub hl [0, 2] rfl)
        · have hf := (if_neg c6).symm.trans hf
          refine lv_iconst (v := 1) hx hb dX9_forget_38 (by decide) ?_
          refine lv_goto (tgt := 43) hx hb dX9_forget_39 (by decide) ?_
          exact B43 rc9 hrc9 σ 1 u1 u2 _ _ _ hf hP hS (lv_sub hl [0, 2] rfl)
  unfold f_X9_forget at hf
  refine lv_aload_n hx hb dX9_forget_0 rfl (lv_at hl 0 rfl) ?_
  refine lv_iconst (v := 0) hx hb dX9_forget_1 (by decide) ?_
  obtain ⟨σ1, hσ1, hf⟩ := zt_lt_some hf
  refine va_put (D := zt_D G) (ci := 8) (v := .int 0) (ty := .int) (C := RX9) (T := TX9) (N := 37) hx hb hts inX9 tyX9 tyX9_ok nmX9 hown hK hP (zt_apart hE.1) hS 94 (zt_a8 (rfl : zt_kd 94 = 8)) rfl 0 (by decide) fl99 (fun _ h9 => h9) rfl (tyX9_ok 0 (by decide)) rfl rfl (Nat.le_of_ble_eq_true rfl) dX9_forget_2 (fun H locs hP _ hS => ?_)
  rw [zt_p8_0 (rfl : zt_kd 94 = 8), ← hσ1] at hP
  refine lv_iconst (v := 0) hx hb dX9_forget_5 (by decide) ?_
  refine lv_istore_n (lv' := [(1, .int 0), (0, .ref (zt_ad G 94))]) hx hb dX9_forget_6 rfl hl (by decide) rfl (fun ls hl => ?_)
  refine lv_iconst (v := 0) hx hb dX9_forget_7 (by decide) ?_
  refine lv_istore_n (lv' := [(2, .int 0), (1, .int 0), (0, .ref (zt_ad G 94))]) hx hb dX9_forget_8 rfl hl (by decide) rfl (fun ls hl => ?_)
  exact B9 zt_FU σ1 0 0 _ _ _ hf hP hS (lv_sub hl [2, 1, 0] rfl)

theorem zh_X9_pass : yX9_pass.cls = RX9 ∧ yX9_pass.cls ≠ "java/lang/invoke/MethodHandle" ∧ yX9_pass.cls ≠ "java/lang/invoke/VarHandle" ∧ (parseMethodDescriptor yX9_pass.desc).map (fun d => d.parameters.length) = some 1 := by decide +kernel
set_option maxHeartbeats 4000000 in
set_option maxRecDepth 100000 in
theorem m_X9_pass (l : Launch) (G : zt_G) {σ : zt_St} {x1 : Int32} {r : Int32} {σ1 : zt_St} (hf : f_X9_pass σ x1 = some (r, σ1)) : zt_Mi l G yX9_pass wsX9_pass 1 22 [.ref (zt_ad G 94), .int x1] σ r σ1 := by
  refine Met.ofW (cc := cX9_pass) (maxL := 2) (ret := (some .int)) (by decide) rfl ?_
  intro p e s m args below meth c s₁ B hml hv
  obtain ⟨rfl, hBB⟩ := hv
  have hE := zt_B.env hBB; have hK := hE.2.1; have hP := hBB.2.1
  have hx := B.exec; have hb := B.bytes; have hr := B.returns; have hts := atoms_spec (ws := wsX9_pass) B.pre
  have hown : s.vm.findClass RX9 = some m.cls := findClass_of_methodNamed B.named
  have hlocks := B.notSynchronized
  have hS : va_S (zt_A G) s.heap s.heap [] := va_S.rf
  have hl := lv_entry ([.ref (zt_ad G 94), .int x1]) (n := 2) (Nat.le_of_ble_eq_true rfl)
  rw [lg_entry_eq]
  generalize (lg_sl ([.ref (zt_ad G 94), .int x1]) ++ List.replicate (2 - (lg_sl ([.ref (zt_ad G 94), .int x1])).length) Slot.unset).toArray = ls at hl ⊢
  have hl : lv_has ls 2 [(0, .ref (zt_ad G 94)), (1, .int x1)] := hl
  show W p l e (zt_R 1 22) s m ([.ref (zt_ad G 94), .int x1] : List Value).toArray below meth c s.heap [] 0 0 (MQ below (zt_Ci G r σ1) ([.ref (zt_ad G 94), .int x1] : List Value).toArray s 0 0 (zt_A G)) (F0 m 0 ls [])
  have fl248 := hts (.fieldLink RX9 248 "ZoneTreeModel" "now" "I") (List.mem_cons_of_mem _ (List.mem_append_left _ (List.mem_of_getElem? (i := 0) rfl)))
  have inX9 : ∀ w ∈ wsX90, w ∈ wsX9_pass := fun w h => (List.mem_cons_of_mem _ (List.mem_append_right _ h))
  unfold f_X9_pass at hf
  refine lv_aload_n hx hb dX9_pass_0 rfl (lv_at hl 0 rfl) ?_
  refine lv_iload_n hx hb dX9_pass_1 rfl (lv_at hl 1 rfl) ?_
  refine lv_iconst (v := 1) hx hb dX9_pass_2 (by decide) ?_
  refine lv_bipush (v := 100) hx hb dX9_pass_3 (by decide +kernel) ?_
  obtain ⟨v1, hvv1, hf⟩ := zt_bd_some hf
  refine va_calli (va_runS (As := [.int x1, .int 1, .int 100]) (rest := [.ref (zt_ad G 94)]) ⟨hx, hb, hml, hown, hts⟩ (m_X9_in l G (σ := σ) hvv1) (va_cwS 3 hts gX9_pass_X9_in rfl rfl rfl zh_X9_in ⟨Nat.le_of_ble_eq_true rfl, Nat.le_of_ble_eq_true rfl⟩) ⟨zt_blind, fun U hU hW => ⟨rfl, zt_go hE hP hS zt_id hU hW⟩⟩ rfl rfl hl.1 rfl (lv_room (Nat.le_of_ble_eq_true rfl)) dX9_pass_5 ⟨Nat.zero_le _, Nat.zero_le _⟩) hS (fun _ _ h => h) (fun _ h => h) (fun r u t H locs ht hvm hw hB _ _ hS => ?_)
  rw [hw.1]; have hB : zt_B G u t := hB; rw [hw.2] at hB; have hP := zt_B.P hB ht
  obtain ⟨⟨v3a, σ4a⟩, hvv3, hf⟩ := zt_bd_some hf
  obtain ⟨v3, hv3, hf⟩ := zt_lt_some hf; obtain ⟨σ4, hσ4, hf⟩ := zt_lt_some hf; rw [show (v3a, σ4a) = (v3, σ4) from by rw [hv3, hσ4]] at hvv3
  refine va_calli (va_runV (As := [.int v1]) (rest := []) ⟨hx, hb, hml, hown, hts⟩ (m_X9_asked l G (σ := σ) hvv3) (cwV 1 hts gX9_pass_X9_asked rfl rfl rfl zh_X9_asked ⟨Nat.le_of_ble_eq_true rfl, Nat.le_of_ble_eq_true rfl⟩) ⟨zt_blind, va_recv hK hP (ci := 8) (q0 := 94) rfl (zt_a8 (rfl : zt_kd 94 = 8)), fun U hU hW => ⟨rfl, zt_go hE hP hS zt_id hU hW⟩⟩ rfl rfl hl.1 rfl (lv_room (Nat.le_of_ble_eq_true rfl)) dX9_pass_8 ⟨Nat.zero_le _, Nat.zero_le _⟩) hS (fun _ _ h => h) (fun _ h => h) (fun r u t H locs ht hvm hw hB _ _ hS => ?_)
  rw [hw.1]; have hB : zt_B G u t := hB; rw [hw.2] at hB; have hP := zt_B.P hB ht
  refine lv_if_ne (tgt := 16) hx hb dX9_pass_11 (by decide) (fun c6 => ?_) (fun c6 => ?_)
  · have hf := (if_neg c6).symm.trans hf
    refine lv_aload_n hx hb dX9_pass_16 rfl (lv_at hl 0 rfl) ?_
    refine lv_dup hx hb dX9_pass_17 rfl ?_
    refine va_get (D := zt_D G) (ci := 8) (v := .int (σ4 94 1)) (C := RX9) (T := TX9) (N := 37) hx hb hts inX9 hown hK hP 94 (zt_a8 (rfl : zt_kd 94 = 8)) rfl 1 (by decide) fl248 (fun _ h9 => h9) rfl dX9_pass_18 ?_
    refine lv_iload_n hx hb dX9_pass_21 rfl (lv_at hl 1 rfl) ?_
    refine lv_iadd hx hb dX9_pass_22 ?_
    obtain ⟨σ7, hσ7, hf⟩ := zt_lt_some hf
    refine va_put (D := zt_D G) (ci := 8) (v := .int ((σ4 94 1) + x1)) (ty := .int) (C := RX9) (T := TX9) (N := 37) hx hb hts inX9 tyX9 tyX9_ok nmX9 hown hK hP (zt_apart hE.1) hS 94 (zt_a8 (rfl : zt_kd 94 = 8)) rfl 1 (by decide) fl248 (fun _ h9 => h9) rfl (tyX9_ok 1 (by decide)) rfl rfl (Nat.le_of_ble_eq_true rfl) dX9_pass_23 (fun H locs hP _ hS => ?_)
    rw [zt_p8_1 (rfl : zt_kd 94 = 8), ← hσ7] at hP
    refine lv_aload_n hx hb dX9_pass_26 rfl (lv_at hl 0 rfl) ?_
    refine va_get (D := zt_D G) (ci := 8) (v := .int (σ7 94 1)) (C := RX9) (T := TX9) (N := 37) hx hb hts inX9 hown hK hP 94 (zt_a8 (rfl : zt_kd 94 = 8)) rfl 1 (by decide) fl248 (fun _ h9 => h9) rfl dX9_pass_27 ?_
    exact W.iret hx hb hr (fun t ht hW => ⟨⟨_, _, rfl, (Prod.mk.inj (Option.some.inj hf)), zt_go hE hP hS zt_id ht hW⟩, hS.F ht⟩) hS.2.2 dX9_pass_30
  · have hf := (if_pos c6).symm.trans hf
    refine lv_iconst (v := 0) hx hb dX9_pass_14 (by decide) ?_
    exact W.iret hx hb hr (fun t ht hW => ⟨⟨_, _, rfl, (Prod.mk.inj (Option.some.inj hf)), zt_go hE hP hS zt_id ht hW⟩, hS.F ht⟩) hS.2.2 dX9_pass_15

theorem zh_X9_setKey : yX9_setKey.cls = RX9 ∧ yX9_setKey.cls ≠ "java/lang/invoke/MethodHandle" ∧ yX9_setKey.cls ≠ "java/lang/invoke/VarHandle" ∧ (parseMethodDescriptor yX9_setKey.desc).map (fun d => d.parameters.length) = some 3 := by decide +kernel
set_option maxHeartbeats 4000000 in
set_option maxRecDepth 100000 in
theorem m_X9_setKey (l : Launch) (G : zt_G) {σ : zt_St} {x1 : Int32} {x2 : Int32} {x3 : Int32} {r : Int32} {σ1 : zt_St} (hf : f_X9_setKey σ x1 x2 x3 = some (r, σ1)) : zt_Mi l G yX9_setKey wsX9_setKey 2 43 [.ref (zt_ad G 94), .int x1, .int x2, .int x3] σ r σ1 := by
  refine Met.ofW (cc := cX9_setKey) (maxL := 5) (ret := (some .int)) (by decide) rfl ?_
  intro p e s m args below meth c s₁ B hml hv
  obtain ⟨rfl, hBB⟩ := hv
  have hE := zt_B.env hBB; have hK := hE.2.1; have hP := hBB.2.1
  have hx := B.exec; have hb := B.bytes; have hr := B.returns; have hts := atoms_spec (ws := wsX9_setKey) B.pre
  have hown : s.vm.findClass RX9 = some m.cls := findClass_of_methodNamed B.named
  have hlocks := B.notSynchronized
  have hS : va_S (zt_A G) s.heap s.heap [] := va_S.rf
  have hl := lv_entry ([.ref (zt_ad G 94), .int x1, .int x2, .int x3]) (n := 5) (Nat.le_of_ble_eq_true rfl)
  rw [lg_entry_eq]
  generalize (lg_sl ([.ref (zt_ad G 94), .int x1, .int x2, .int x3]) ++ List.replicate (5 - (lg_sl ([.ref (zt_ad G 94), .int x1, .int x2, .int x3])).length) Slot.unset).toArray = ls at hl ⊢
  have hl : lv_has ls 5 [(0, .ref (zt_ad G 94)), (1, .int x1), (2, .int x2), (3, .int x3)] := hl
  show W p l e (zt_R 2 43) s m ([.ref (zt_ad G 94), .int x1, .int x2, .int x3] : List Value).toArray below meth c s.heap [] 0 0 (MQ below (zt_Ci G r σ1) ([.ref (zt_ad G 94), .int x1, .int x2, .int x3] : List Value).toArray s 0 0 (zt_A G)) (F0 m 0 ls [])
  have fl30 := hts (.fieldLink RX9 30 "ZoneTreeModel" "key" "[I") (List.mem_cons_of_mem _ (List.mem_append_left _ (List.mem_of_getElem? (i := 0) rfl)))
  have inX9 : ∀ w ∈ wsX90, w ∈ wsX9_setKey := fun w h => (List.mem_cons_of_mem _ (List.mem_append_right _ h))
  have B30 : ∀ (σ : zt_St) (y0 : Int32) (y1 : Int32) (u1 : Int32) (u2 : Int32) (u3 : Int32) (H : Heap) (locs : List Loc) (ls : Array Slot), f_X9_setKey_30 σ y0 y1 u1 u2 u3 = some (r, σ1) → va_P (zt_D G) vwCl (zt_ww G σ) H → va_S (zt_A G) s.heap H locs → lv_has ls 5 [(0, .ref (zt_ad G 94)), (1, .int u1), (2, .int u2), (3, .int u3)] → W p l e (zt_R 2 43) s m ([.ref (zt_ad G 94), .int x1, .int x2, .int x3] : List Value).toArray below meth c H locs 0 0 (MQ below (zt_Ci G r σ1) ([.ref (zt_ad G 94), .int x1, .int x2, .int x3] : List Value).toArray s 0 0 (zt_A G)) (F0 m 30 ls [.int y0, .int y1, .ref (zt_ad G 94)]) := by
    intro σ y0 y1 u1 u2 u3 H locs ls hf hP hS hl
    unfold f_X9_setKey_30 at hf
    obtain ⟨⟨v9a, σ10a⟩, hvv9, hf⟩ := zt_bd_some hf
    obtain ⟨v9, hv9, hf⟩ := zt_lt_some hf; obtain ⟨σ10, hσ10, hf⟩ := zt_lt_some hf; rw [show (v9a, σ10a) = (v9, σ10) from by rw [hv9, hσ10]] at hvv9
    refine va_calli (va_runV (As := [.int y1, .int y0]) (rest := []) ⟨hx, hb, hml, hown, hts⟩ (m_X9_asked_ l G (σ := σ) hvv9) (cwV 2 hts gX9_setKey_X9_asked_ rfl rfl rfl zh_X9_asked_ ⟨Nat.le_of_ble_eq_true rfl, Nat.le_of_ble_eq_true rfl⟩) ⟨zt_blind, va_recv hK hP (ci := 8) (q0 := 94) rfl (zt_a8 (rfl : zt_kd 94 = 8)), fun U hU hW => ⟨rfl, zt_go hE hP hS zt_id hU hW⟩⟩ rfl rfl hl.1 rfl (lv_room (Nat.le_of_ble_eq_true rfl)) dX9_setKey_30 ⟨Nat.zero_le _, Nat.zero_le _⟩) hS (fun _ _ h => h) (fun _ h => h) (fun r u t H locs ht hvm hw hB _ _ hS => ?_)
    rw [hw.1]; have hB : zt_B G u t := hB; rw [hw.2] at hB; have hP := zt_B.P hB ht
    refine lv_if_ne (tgt := 38) hx hb dX9_setKey_33 (by decide) (fun c12 => ?_) (fun c12 => ?_)
    · have hf := (if_neg c12).symm.trans hf
      refine lv_aload_n hx hb dX9_setKey_38 rfl (lv_at hl 0 rfl) ?_
      refine va_get (D := zt_D G) (ci := 8) (v := .ref (zt_ad G 100)) (C := RX9) (T := TX9) (N := 37) hx hb hts inX9 hown hK hP 94 (zt_a8 (rfl : zt_kd 94 = 8)) rfl 8 (by decide) fl30 (fun _ h9 => h9) rfl dX9_setKey_39 ?_
      refine lv_iconst (v := 2) hx hb dX9_setKey_42 (by decide) ?_
      refine lv_iload_n hx hb dX9_setKey_43 rfl (lv_at hl 1 rfl) ?_
      refine lv_imul hx hb dX9_setKey_44 ?_
      refine lv_iload_n hx hb dX9_setKey_45 rfl (lv_at hl 2 rfl) ?_
      refine lv_iadd hx hb dX9_setKey_46 ?_
      obtain ⟨g13, hf⟩ := zt_gd_some hf
      refine va_iald hx hb hK hP 100 0 zt_a_100 rfl (zt_gI_in g13) dX9_setKey_47 ?_
      refine lv_istore (lv' := [(4, .int (σ10 100 ((2 * u1) + u2).toNatClampNeg)), (0, .ref (zt_ad G 94)), (1, .int u1), (2, .int u2), (3, .int u3)]) hx hb dX9_setKey_48 hl (by decide) rfl (fun ls hl => ?_)
      refine lv_aload_n hx hb dX9_setKey_50 rfl (lv_at hl 1 rfl) ?_
      refine va_get (D := zt_D G) (ci := 8) (v := .ref (zt_ad G 100)) (C := RX9) (T := TX9) (N := 37) hx hb hts inX9 hown hK hP 94 (zt_a8 (rfl : zt_kd 94 = 8)) rfl 8 (by decide) fl30 (fun _ h9 => h9) rfl dX9_setKey_51 ?_
      refine lv_iconst (v := 2) hx hb dX9_setKey_54 (by decide) ?_
      refine lv_iload_n hx hb dX9_setKey_55 rfl (lv_at hl 2 rfl) ?_
      refine lv_imul hx hb dX9_setKey_56 ?_
      refine lv_iload_n hx hb dX9_setKey_57 rfl (lv_at hl 3 rfl) ?_
      refine lv_iadd hx hb dX9_setKey_58 ?_
      refine lv_iload_n hx hb dX9_setKey_59 rfl (lv_at hl 4 rfl) ?_
      obtain ⟨g14, hf⟩ := zt_gd_some hf
      obtain ⟨σ15, hσ15, hf⟩ := zt_lt_some hf
      refine va_iast hx hb hK hP (zt_apart hE.1) hS 100 0 zt_a_100 rfl (zt_gI_in g14) dX9_setKey_60 (fun H locs hP _ hS => ?_)
      rw [zt_p_100, ← hσ15] at hP
      refine lv_iload hx hb dX9_setKey_61 (lv_at hl 0 rfl) ?_
      exact W.iret hx hb hr (fun t ht hW => ⟨⟨_, _, rfl, (Prod.mk.inj (Option.some.inj hf)), zt_go hE hP hS zt_id ht hW⟩, hS.F ht⟩) hS.2.2 dX9_setKey_63
    · have hf := (if_pos c12).symm.trans hf
      refine lv_iconst (v := 0) hx hb dX9_setKey_36 (by decide) ?_
      exact W.iret hx hb hr (fun t ht hW => ⟨⟨_, _, rfl, (Prod.mk.inj (Option.some.inj hf)), zt_go hE hP hS zt_id ht hW⟩, hS.F ht⟩) hS.2.2 dX9_setKey_37
  have B29 : ∀ (σ : zt_St) (y0 : Int32) (u1 : Int32) (u2 : Int32) (u3 : Int32) (H : Heap) (locs : List Loc) (ls : Array Slot), f_X9_setKey_29 σ y0 u1 u2 u3 = some (r, σ1) → va_P (zt_D G) vwCl (zt_ww G σ) H → va_S (zt_A G) s.heap H locs → lv_has ls 5 [(0, .ref (zt_ad G 94)), (1, .int u1), (2, .int u2), (3, .int u3)] → W p l e (zt_R 2 43) s m ([.ref (zt_ad G 94), .int x1, .int x2, .int x3] : List Value).toArray below meth c H locs 0 0 (MQ below (zt_Ci G r σ1) ([.ref (zt_ad G 94), .int x1, .int x2, .int x3] : List Value).toArray s 0 0 (zt_A G)) (F0 m 29 ls [.int y0, .ref (zt_ad G 94)]) := by
    intro σ y0 u1 u2 u3 H locs ls hf hP hS hl
    unfold f_X9_setKey_29 at hf
    refine lv_iconst (v := 0) hx hb dX9_setKey_29 (by decide) ?_
    exact B30 σ 0 y0 u1 u2 u3 _ _ _ hf hP hS (lv_sub hl [0, 1, 2, 3] rfl)
  unfold f_X9_setKey at hf
  refine lv_aload_n hx hb dX9_setKey_0 rfl (lv_at hl 0 rfl) ?_
  refine lv_aload_n hx hb dX9_setKey_1 rfl (lv_at hl 0 rfl) ?_
  refine lv_iload_n hx hb dX9_setKey_2 rfl (lv_at hl 1 rfl) ?_
  obtain ⟨v1, hvv1, hf⟩ := zt_bd_some hf
  refine va_calli (va_runV (As := [.int x1]) (rest := [.ref (zt_ad G 94)]) ⟨hx, hb, hml, hown, hts⟩ (m_X9_isZone l G (σ := σ) hvv1) (cwV 1 hts gX9_setKey_X9_isZone rfl rfl rfl zh_X9_isZone ⟨Nat.le_of_ble_eq_true rfl, Nat.le_of_ble_eq_true rfl⟩) ⟨zt_blind, va_recv hK hP (ci := 8) (q0 := 94) rfl (zt_a8 (rfl : zt_kd 94 = 8)), fun U hU hW => ⟨rfl, zt_go hE hP hS zt_id hU hW⟩⟩ rfl rfl hl.1 rfl (lv_room (Nat.le_of_ble_eq_true rfl)) dX9_setKey_3 ⟨Nat.zero_le _, Nat.zero_le _⟩) hS (fun _ _ h => h) (fun _ h => h) (fun r u t H locs ht hvm hw hB _ _ hS => ?_)
  rw [hw.1]; have hB : zt_B G u t := hB; rw [hw.2] at hB; have hP := zt_B.P hB ht
  refine lv_iload_n hx hb dX9_setKey_6 rfl (lv_at hl 2 rfl) ?_
  refine lv_iconst (v := 0) hx hb dX9_setKey_7 (by decide) ?_
  refine lv_iconst (v := 1) hx hb dX9_setKey_8 (by decide) ?_
  obtain ⟨v3, hvv3, hf⟩ := zt_bd_some hf
  refine va_calli (va_runS (As := [.int x2, .int 0, .int 1]) (rest := [.int v1, .ref (zt_ad G 94)]) ⟨hx, hb, hml, hown, hts⟩ (m_X9_in l G (σ := σ) hvv3) (va_cwS 3 hts gX9_setKey_X9_in rfl rfl rfl zh_X9_in ⟨Nat.le_of_ble_eq_true rfl, Nat.le_of_ble_eq_true rfl⟩) ⟨zt_blind, fun U hU hW => ⟨rfl, zt_go hE hP hS zt_id hU hW⟩⟩ rfl rfl hl.1 rfl (lv_room (Nat.le_of_ble_eq_true rfl)) dX9_setKey_9 ⟨Nat.zero_le _, Nat.zero_le _⟩) hS (fun _ _ h => h) (fun _ h => h) (fun r u t H locs ht hvm hw hB _ _ hS => ?_)
  rw [hw.1]; have hB : zt_B G u t := hB; rw [hw.2] at hB; have hP := zt_B.P hB ht
  refine lv_if_eq (tgt := 29) hx hb dX9_setKey_12 (by decide) (fun c5 => ?_) (fun c5 => ?_)
  · have hf := (if_pos c5).symm.trans hf
    exact B29 σ v1 x1 x2 x3 _ _ _ hf hP hS (lv_sub hl [0, 1, 2, 3] rfl)
  · have hf := (if_neg c5).symm.trans hf
    refine lv_iload_n hx hb dX9_setKey_15 rfl (lv_at hl 3 rfl) ?_
    refine lv_iconst (v := (-1)) hx hb dX9_setKey_16 (by decide) ?_
    refine lv_bipush (v := 99) hx hb dX9_setKey_17 (by decide +kernel) ?_
    obtain ⟨v6, hvv6, hf⟩ := zt_bd_some hf
    refine va_calli (va_runS (As := [.int x3, .int (-1), .int 99]) (rest := [.int v1, .ref (zt_ad G 94)]) ⟨hx, hb, hml, hown, hts⟩ (m_X9_in l G (σ := σ) hvv6) (va_cwS 3 hts gX9_setKey_X9_in rfl rfl rfl zh_X9_in ⟨Nat.le_of_ble_eq_true rfl, Nat.le_of_ble_eq_true rfl⟩) ⟨zt_blind, fun U hU hW => ⟨rfl, zt_go hE hP hS zt_id hU hW⟩⟩ rfl rfl hl.1 rfl (lv_room (Nat.le_of_ble_eq_true rfl)) dX9_setKey_19 ⟨Nat.zero_le _, Nat.zero_le _⟩) hS (fun _ _ h => h) (fun _ h => h) (fun r u t H locs ht hvm hw hB _ _ hS => ?_)
    rw [hw.1]; have hB : zt_B G u t := hB; rw [hw.2] at hB; have hP := zt_B.P hB ht
    refine lv_if_eq (tgt := 29) hx hb dX9_setKey_22 (by decide) (fun c8 => ?_) (fun c8 => ?_)
    · have hf := (if_pos c8).symm.trans hf
      exact B29 σ v1 x1 x2 x3 _ _ _ hf hP hS (lv_sub hl [0, 1, 2, 3] rfl)
    · have hf := (if_neg c8).symm.trans hf
      refine lv_iconst (v := 1) hx hb dX9_setKey_25 (by decide) ?_
      refine lv_goto (tgt := 30) hx hb dX9_setKey_26 (by decide) ?_
      exact B30 σ 1 v1 x1 x2 x3 _ _ _ hf hP hS (lv_sub hl [0, 1, 2, 3] rfl)

theorem zh_X9_setWindow : yX9_setWindow.cls = RX9 ∧ yX9_setWindow.cls ≠ "java/lang/invoke/MethodHandle" ∧ yX9_setWindow.cls ≠ "java/lang/invoke/VarHandle" ∧ (parseMethodDescriptor yX9_setWindow.desc).map (fun d => d.parameters.length) = some 3 := by decide +kernel
set_option maxHeartbeats 4000000 in
set_option maxRecDepth 100000 in
theorem m_X9_setWindow (l : Launch) (G : zt_G) {σ : zt_St} {x1 : Int32} {x2 : Int32} {x3 : Int32} {σ1 : zt_St} (hf : f_X9_setWindow σ x1 x2 x3 = some σ1) : zt_Mv l G yX9_setWindow wsX9_setWindow 2 43 [.ref (zt_ad G 94), .int x1, .int x2, .int x3] σ σ1 := by
  refine Met.ofW (cc := cX9_setWindow) (maxL := 4) (ret := none) (by decide) rfl ?_
  intro p e s m args below meth c s₁ B hml hv
  obtain ⟨rfl, hBB⟩ := hv
  have hE := zt_B.env hBB; have hK := hE.2.1; have hP := hBB.2.1
  have hx := B.exec; have hb := B.bytes; have hr := B.returns; have hts := atoms_spec (ws := wsX9_setWindow) B.pre
  have hown : s.vm.findClass RX9 = some m.cls := findClass_of_methodNamed B.named
  have hlocks := B.notSynchronized
  have hS : va_S (zt_A G) s.heap s.heap [] := va_S.rf
  have hl := lv_entry ([.ref (zt_ad G 94), .int x1, .int x2, .int x3]) (n := 4) (Nat.le_of_ble_eq_true rfl)
  rw [lg_entry_eq]
  generalize (lg_sl ([.ref (zt_ad G 94), .int x1, .int x2, .int x3]) ++ List.replicate (4 - (lg_sl ([.ref (zt_ad G 94), .int x1, .int x2, .int x3])).length) Slot.unset).toArray = ls at hl ⊢
  have hl : lv_has ls 4 [(0, .ref (zt_ad G 94)), (1, .int x1), (2, .int x2), (3, .int x3)] := hl
  show W p l e (zt_R 2 43) s m ([.ref (zt_ad G 94), .int x1, .int x2, .int x3] : List Value).toArray below meth c s.heap [] 0 0 (MQ below (zt_Cv G σ1) ([.ref (zt_ad G 94), .int x1, .int x2, .int x3] : List Value).toArray s 0 0 (zt_A G)) (F0 m 0 ls [])
  have fl33 := hts (.fieldLink RX9 33 "ZoneTreeModel" "from" "[I") (List.mem_cons_of_mem _ (List.mem_append_left _ (List.mem_of_getElem? (i := 0) rfl)))
  have fl36 := hts (.fieldLink RX9 36 "ZoneTreeModel" "to" "[I") (List.mem_cons_of_mem _ (List.mem_append_left _ (List.mem_of_getElem? (i := 1) rfl)))
  have inX9 : ∀ w ∈ wsX90, w ∈ wsX9_setWindow := fun w h => (List.mem_cons_of_mem _ (List.mem_append_right _ h))
  have B33 : ∀ (σ : zt_St) (y0 : Int32) (y1 : Int32) (u1 : Int32) (u2 : Int32) (u3 : Int32) (H : Heap) (locs : List Loc) (ls : Array Slot), f_X9_setWindow_33 σ y0 y1 u1 u2 u3 = some σ1 → va_P (zt_D G) vwCl (zt_ww G σ) H → va_S (zt_A G) s.heap H locs → lv_has ls 4 [(0, .ref (zt_ad G 94)), (1, .int u1), (2, .int u2), (3, .int u3)] → W p l e (zt_R 2 43) s m ([.ref (zt_ad G 94), .int x1, .int x2, .int x3] : List Value).toArray below meth c H locs 0 0 (MQ below (zt_Cv G σ1) ([.ref (zt_ad G 94), .int x1, .int x2, .int x3] : List Value).toArray s 0 0 (zt_A G)) (F0 m 33 ls [.int y0, .int y1, .ref (zt_ad G 94)]) := by
    intro σ y0 y1 u1 u2 u3 H locs ls hf hP hS hl
    unfold f_X9_setWindow_33 at hf
    obtain ⟨⟨v9a, σ10a⟩, hvv9, hf⟩ := zt_bd_some hf
    obtain ⟨v9, hv9, hf⟩ := zt_lt_some hf; obtain ⟨σ10, hσ10, hf⟩ := zt_lt_some hf; rw [show (v9a, σ10a) = (v9, σ10) from by rw [hv9, hσ10]] at hvv9
    refine va_calli (va_runV (As := [.int y1, .int y0]) (rest := []) ⟨hx, hb, hml, hown, hts⟩ (m_X9_asked_ l G (σ := σ) hvv9) (cwV 2 hts gX9_setWindow_X9_asked_ rfl rfl rfl zh_X9_asked_ ⟨Nat.le_of_ble_eq_true rfl, Nat.le_of_ble_eq_true rfl⟩) ⟨zt_blind, va_recv hK hP (ci := 8) (q0 := 94) rfl (zt_a8 (rfl : zt_kd 94 = 8)), fun U hU hW => ⟨rfl, zt_go hE hP hS zt_id hU hW⟩⟩ rfl rfl hl.1 rfl (lv_room (Nat.le_of_ble_eq_true rfl)) dX9_setWindow_33 ⟨Nat.zero_le _, Nat.zero_le _⟩) hS (fun _ _ h => h) (fun _ h => h) (fun r u t H locs ht hvm hw hB _ _ hS => ?_)
    rw [hw.1]; have hB : zt_B G u t := hB; rw [hw.2] at hB; have hP := zt_B.P hB ht
    refine lv_if_eq (tgt := 53) hx hb dX9_setWindow_36 (by decide) (fun c12 => ?_) (fun c12 => ?_)
    · have hf := (if_pos c12).symm.trans hf
      exact W.vret hx hb hr (fun t ht hW => ⟨⟨_, rfl, (Option.some.inj hf), zt_go hE hP hS zt_id ht hW⟩, hS.F ht⟩) hS.2.2 dX9_setWindow_53
    · have hf := (if_neg c12).symm.trans hf
      refine lv_aload_n hx hb dX9_setWindow_39 rfl (lv_at hl 0 rfl) ?_
      refine va_get (D := zt_D G) (ci := 8) (v := .ref (zt_ad G 101)) (C := RX9) (T := TX9) (N := 37) hx hb hts inX9 hown hK hP 94 (zt_a8 (rfl : zt_kd 94 = 8)) rfl 9 (by decide) fl33 (fun _ h9 => h9) rfl dX9_setWindow_40 ?_
      refine lv_iload_n hx hb dX9_setWindow_43 rfl (lv_at hl 1 rfl) ?_
      refine lv_iload_n hx hb dX9_setWindow_44 rfl (lv_at hl 2 rfl) ?_
      obtain ⟨g13, hf⟩ := zt_gd_some hf
      obtain ⟨σ14, hσ14, hf⟩ := zt_lt_some hf
      refine va_iast hx hb hK hP (zt_apart hE.1) hS 101 0 zt_a_101 rfl (zt_gI_in g13) dX9_setWindow_45 (fun H locs hP _ hS => ?_)
      rw [zt_p_101, ← hσ14] at hP
      refine lv_aload_n hx hb dX9_setWindow_46 rfl (lv_at hl 0 rfl) ?_
      refine va_get (D := zt_D G) (ci := 8) (v := .ref (zt_ad G 102)) (C := RX9) (T := TX9) (N := 37) hx hb hts inX9 hown hK hP 94 (zt_a8 (rfl : zt_kd 94 = 8)) rfl 10 (by decide) fl36 (fun _ h9 => h9) rfl dX9_setWindow_47 ?_
      refine lv_iload_n hx hb dX9_setWindow_50 rfl (lv_at hl 1 rfl) ?_
      refine lv_iload_n hx hb dX9_setWindow_51 rfl (lv_at hl 3 rfl) ?_
      obtain ⟨g15, hf⟩ := zt_gd_some hf
      obtain ⟨σ16, hσ16, hf⟩ := zt_lt_some hf
      refine va_iast hx hb hK hP (zt_apart hE.1) hS 102 0 zt_a_102 rfl (zt_gI_in g15) dX9_setWindow_52 (fun H locs hP _ hS => ?_)
      rw [zt_p_102, ← hσ16] at hP
      exact W.vret hx hb hr (fun t ht hW => ⟨⟨_, rfl, (Option.some.inj hf), zt_go hE hP hS zt_id ht hW⟩, hS.F ht⟩) hS.2.2 dX9_setWindow_53
  have B32 : ∀ (σ : zt_St) (y0 : Int32) (u1 : Int32) (u2 : Int32) (u3 : Int32) (H : Heap) (locs : List Loc) (ls : Array Slot), f_X9_setWindow_32 σ y0 u1 u2 u3 = some σ1 → va_P (zt_D G) vwCl (zt_ww G σ) H → va_S (zt_A G) s.heap H locs → lv_has ls 4 [(0, .ref (zt_ad G 94)), (1, .int u1), (2, .int u2), (3, .int u3)] → W p l e (zt_R 2 43) s m ([.ref (zt_ad G 94), .int x1, .int x2, .int x3] : List Value).toArray below meth c H locs 0 0 (MQ below (zt_Cv G σ1) ([.ref (zt_ad G 94), .int x1, .int x2, .int x3] : List Value).toArray s 0 0 (zt_A G)) (F0 m 32 ls [.int y0, .ref (zt_ad G 94)]) := by
    intro σ y0 u1 u2 u3 H locs ls hf hP hS hl
    unfold f_X9_setWindow_32 at hf
    refine lv_iconst (v := 0) hx hb dX9_setWindow_32 (by decide) ?_
    exact B33 σ 0 y0 u1 u2 u3 _ _ _ hf hP hS (lv_sub hl [0, 1, 2, 3] rfl)
  unfold f_X9_setWindow at hf
  refine lv_aload_n hx hb dX9_setWindow_0 rfl (lv_at hl 0 rfl) ?_
  refine lv_aload_n hx hb dX9_setWindow_1 rfl (lv_at hl 0 rfl) ?_
  refine lv_iload_n hx hb dX9_setWindow_2 rfl (lv_at hl 1 rfl) ?_
  obtain ⟨v1, hvv1, hf⟩ := zt_bd_some hf
  refine va_calli (va_runV (As := [.int x1]) (rest := [.ref (zt_ad G 94)]) ⟨hx, hb, hml, hown, hts⟩ (m_X9_isZone l G (σ := σ) hvv1) (cwV 1 hts gX9_setWindow_X9_isZone rfl rfl rfl zh_X9_isZone ⟨Nat.le_of_ble_eq_true rfl, Nat.le_of_ble_eq_true rfl⟩) ⟨zt_blind, va_recv hK hP (ci := 8) (q0 := 94) rfl (zt_a8 (rfl : zt_kd 94 = 8)), fun U hU hW => ⟨rfl, zt_go hE hP hS zt_id hU hW⟩⟩ rfl rfl hl.1 rfl (lv_room (Nat.le_of_ble_eq_true rfl)) dX9_setWindow_3 ⟨Nat.zero_le _, Nat.zero_le _⟩) hS (fun _ _ h => h) (fun _ h => h) (fun r u t H locs ht hvm hw hB _ _ hS => ?_)
  rw [hw.1]; have hB : zt_B G u t := hB; rw [hw.2] at hB; have hP := zt_B.P hB ht
  refine lv_iload_n hx hb dX9_setWindow_6 rfl (lv_at hl 2 rfl) ?_
  refine lv_iconst (v := 0) hx hb dX9_setWindow_7 (by decide) ?_
  refine lv_sipush (v := 10000) hx hb dX9_setWindow_8 (by decide +kernel) ?_
  obtain ⟨v3, hvv3, hf⟩ := zt_bd_some hf
  refine va_calli (va_runS (As := [.int x2, .int 0, .int 10000]) (rest := [.int v1, .ref (zt_ad G 94)]) ⟨hx, hb, hml, hown, hts⟩ (m_X9_in l G (σ := σ) hvv3) (va_cwS 3 hts gX9_setWindow_X9_in rfl rfl rfl zh_X9_in ⟨Nat.le_of_ble_eq_true rfl, Nat.le_of_ble_eq_true rfl⟩) ⟨zt_blind, fun U hU hW => ⟨rfl, zt_go hE hP hS zt_id hU hW⟩⟩ rfl rfl hl.1 rfl (lv_room (Nat.le_of_ble_eq_true rfl)) dX9_setWindow_11 ⟨Nat.zero_le _, Nat.zero_le _⟩) hS (fun _ _ h => h) (fun _ h => h) (fun r u t H locs ht hvm hw hB _ _ hS => ?_)
  rw [hw.1]; have hB : zt_B G u t := hB; rw [hw.2] at hB; have hP := zt_B.P hB ht
  refine lv_if_eq (tgt := 32) hx hb dX9_setWindow_14 (by decide) (fun c5 => ?_) (fun c5 => ?_)
  · have hf := (if_pos c5).symm.trans hf
    exact B32 σ v1 x1 x2 x3 _ _ _ hf hP hS (lv_sub hl [0, 1, 2, 3] rfl)
  · have hf := (if_neg c5).symm.trans hf
    refine lv_iload_n hx hb dX9_setWindow_17 rfl (lv_at hl 3 rfl) ?_
    refine lv_iload_n hx hb dX9_setWindow_18 rfl (lv_at hl 2 rfl) ?_
    refine lv_sipush (v := 10000) hx hb dX9_setWindow_19 (by decide +kernel) ?_
    obtain ⟨v6, hvv6, hf⟩ := zt_bd_some hf
    refine va_calli (va_runS (As := [.int x3, .int x2, .int 10000]) (rest := [.int v1, .ref (zt_ad G 94)]) ⟨hx, hb, hml, hown, hts⟩ (m_X9_in l G (σ := σ) hvv6) (va_cwS 3 hts gX9_setWindow_X9_in rfl rfl rfl zh_X9_in ⟨Nat.le_of_ble_eq_true rfl, Nat.le_of_ble_eq_true rfl⟩) ⟨zt_blind, fun U hU hW => ⟨rfl, zt_go hE hP hS zt_id hU hW⟩⟩ rfl rfl hl.1 rfl (lv_room (Nat.le_of_ble_eq_true rfl)) dX9_setWindow_22 ⟨Nat.zero_le _, Nat.zero_le _⟩) hS (fun _ _ h => h) (fun _ h => h) (fun r u t H locs ht hvm hw hB _ _ hS => ?_)
    rw [hw.1]; have hB : zt_B G u t := hB; rw [hw.2] at hB; have hP := zt_B.P hB ht
    refine lv_if_eq (tgt := 32) hx hb dX9_setWindow_25 (by decide) (fun c8 => ?_) (fun c8 => ?_)
    · have hf := (if_pos c8).symm.trans hf
      exact B32 σ v1 x1 x2 x3 _ _ _ hf hP hS (lv_sub hl [0, 1, 2, 3] rfl)
    · have hf := (if_neg c8).symm.trans hf
      refine lv_iconst (v := 1) hx hb dX9_setWindow_28 (by decide) ?_
      refine lv_goto (tgt := 33) hx hb dX9_setWindow_29 (by decide) ?_
      exact B33 σ 1 v1 x1 x2 x3 _ _ _ hf hP hS (lv_sub hl [0, 1, 2, 3] rfl)

theorem zh_X9_setAnchor : yX9_setAnchor.cls = RX9 ∧ yX9_setAnchor.cls ≠ "java/lang/invoke/MethodHandle" ∧ yX9_setAnchor.cls ≠ "java/lang/invoke/VarHandle" ∧ (parseMethodDescriptor yX9_setAnchor.desc).map (fun d => d.parameters.length) = some 1 := by decide +kernel
set_option maxHeartbeats 4000000 in
set_option maxRecDepth 100000 in
theorem m_X9_setAnchor (l : Launch) (G : zt_G) {σ : zt_St} {x1 : Int32} {r : Int32} {σ1 : zt_St} (hf : f_X9_setAnchor σ x1 = some (r, σ1)) : zt_Mi l G yX9_setAnchor wsX9_setAnchor 1 22 [.ref (zt_ad G 94), .int x1] σ r σ1 := by
  refine Met.ofW (cc := cX9_setAnchor) (maxL := 3) (ret := (some .int)) (by decide) rfl ?_
  intro p e s m args below meth c s₁ B hml hv
  obtain ⟨rfl, hBB⟩ := hv
  have hE := zt_B.env hBB; have hK := hE.2.1; have hP := hBB.2.1
  have hx := B.exec; have hb := B.bytes; have hr := B.returns; have hts := atoms_spec (ws := wsX9_setAnchor) B.pre
  have hown : s.vm.findClass RX9 = some m.cls := findClass_of_methodNamed B.named
  have hlocks := B.notSynchronized
  have hS : va_S (zt_A G) s.heap s.heap [] := va_S.rf
  have hl := lv_entry ([.ref (zt_ad G 94), .int x1]) (n := 3) (Nat.le_of_ble_eq_true rfl)
  rw [lg_entry_eq]
  generalize (lg_sl ([.ref (zt_ad G 94), .int x1]) ++ List.replicate (3 - (lg_sl ([.ref (zt_ad G 94), .int x1])).length) Slot.unset).toArray = ls at hl ⊢
  have hl : lv_has ls 3 [(0, .ref (zt_ad G 94)), (1, .int x1)] := hl
  show W p l e (zt_R 1 22) s m ([.ref (zt_ad G 94), .int x1] : List Value).toArray below meth c s.heap [] 0 0 (MQ below (zt_Ci G r σ1) ([.ref (zt_ad G 94), .int x1] : List Value).toArray s 0 0 (zt_A G)) (F0 m 0 ls [])
  have fl39 := hts (.fieldLink RX9 39 "ZoneTreeModel" "anchor" "I") (List.mem_cons_of_mem _ (List.mem_append_left _ (List.mem_of_getElem? (i := 0) rfl)))
  have inX9 : ∀ w ∈ wsX90, w ∈ wsX9_setAnchor := fun w h => (List.mem_cons_of_mem _ (List.mem_append_right _ h))
  unfold f_X9_setAnchor at hf
  refine lv_aload_n hx hb dX9_setAnchor_0 rfl (lv_at hl 0 rfl) ?_
  refine lv_iload_n hx hb dX9_setAnchor_1 rfl (lv_at hl 1 rfl) ?_
  refine lv_iconst (v := (-1)) hx hb dX9_setAnchor_2 (by decide) ?_
  refine lv_bipush (v := 99) hx hb dX9_setAnchor_3 (by decide +kernel) ?_
  obtain ⟨v1, hvv1, hf⟩ := zt_bd_some hf
  refine va_calli (va_runS (As := [.int x1, .int (-1), .int 99]) (rest := [.ref (zt_ad G 94)]) ⟨hx, hb, hml, hown, hts⟩ (m_X9_in l G (σ := σ) hvv1) (va_cwS 3 hts gX9_setAnchor_X9_in rfl rfl rfl zh_X9_in ⟨Nat.le_of_ble_eq_true rfl, Nat.le_of_ble_eq_true rfl⟩) ⟨zt_blind, fun U hU hW => ⟨rfl, zt_go hE hP hS zt_id hU hW⟩⟩ rfl rfl hl.1 rfl (lv_room (Nat.le_of_ble_eq_true rfl)) dX9_setAnchor_5 ⟨Nat.zero_le _, Nat.zero_le _⟩) hS (fun _ _ h => h) (fun _ h => h) (fun r u t H locs ht hvm hw hB _ _ hS => ?_)
  rw [hw.1]; have hB : zt_B G u t := hB; rw [hw.2] at hB; have hP := zt_B.P hB ht
  obtain ⟨⟨v3a, σ4a⟩, hvv3, hf⟩ := zt_bd_some hf
  obtain ⟨v3, hv3, hf⟩ := zt_lt_some hf; obtain ⟨σ4, hσ4, hf⟩ := zt_lt_some hf; rw [show (v3a, σ4a) = (v3, σ4) from by rw [hv3, hσ4]] at hvv3
  refine va_calli (va_runV (As := [.int v1]) (rest := []) ⟨hx, hb, hml, hown, hts⟩ (m_X9_asked l G (σ := σ) hvv3) (cwV 1 hts gX9_setAnchor_X9_asked rfl rfl rfl zh_X9_asked ⟨Nat.le_of_ble_eq_true rfl, Nat.le_of_ble_eq_true rfl⟩) ⟨zt_blind, va_recv hK hP (ci := 8) (q0 := 94) rfl (zt_a8 (rfl : zt_kd 94 = 8)), fun U hU hW => ⟨rfl, zt_go hE hP hS zt_id hU hW⟩⟩ rfl rfl hl.1 rfl (lv_room (Nat.le_of_ble_eq_true rfl)) dX9_setAnchor_8 ⟨Nat.zero_le _, Nat.zero_le _⟩) hS (fun _ _ h => h) (fun _ h => h) (fun r u t H locs ht hvm hw hB _ _ hS => ?_)
  rw [hw.1]; have hB : zt_B G u t := hB; rw [hw.2] at hB; have hP := zt_B.P hB ht
  refine lv_if_ne (tgt := 16) hx hb dX9_setAnchor_11 (by decide) (fun c6 => ?_) (fun c6 => ?_)
  · have hf := (if_neg c6).symm.trans hf
    refine lv_aload_n hx hb dX9_setAnchor_16 rfl (lv_at hl 0 rfl) ?_
    refine va_get (D := zt_D G) (ci := 8) (v := .int (σ4 94 11)) (C := RX9) (T := TX9) (N := 37) hx hb hts inX9 hown hK hP 94 (zt_a8 (rfl : zt_kd 94 = 8)) rfl 11 (by decide) fl39 (fun _ h9 => h9) rfl dX9_setAnchor_17 ?_
    refine lv_istore_n (lv' := [(2, .int (σ4 94 11)), (0, .ref (zt_ad G 94)), (1, .int x1)]) hx hb dX9_setAnchor_20 rfl hl (by decide) rfl (fun ls hl => ?_)
    refine lv_aload_n hx hb dX9_setAnchor_21 rfl (lv_at hl 1 rfl) ?_
    refine lv_iload_n hx hb dX9_setAnchor_22 rfl (lv_at hl 2 rfl) ?_
    obtain ⟨σ7, hσ7, hf⟩ := zt_lt_some hf
    refine va_put (D := zt_D G) (ci := 8) (v := .int x1) (ty := .int) (C := RX9) (T := TX9) (N := 37) hx hb hts inX9 tyX9 tyX9_ok nmX9 hown hK hP (zt_apart hE.1) hS 94 (zt_a8 (rfl : zt_kd 94 = 8)) rfl 11 (by decide) fl39 (fun _ h9 => h9) rfl (tyX9_ok 11 (by decide)) rfl rfl (Nat.le_of_ble_eq_true rfl) dX9_setAnchor_23 (fun H locs hP _ hS => ?_)
    rw [zt_p8_11 (rfl : zt_kd 94 = 8), ← hσ7] at hP
    refine lv_iload_n hx hb dX9_setAnchor_26 rfl (lv_at hl 0 rfl) ?_
    exact W.iret hx hb hr (fun t ht hW => ⟨⟨_, _, rfl, (Prod.mk.inj (Option.some.inj hf)), zt_go hE hP hS zt_id ht hW⟩, hS.F ht⟩) hS.2.2 dX9_setAnchor_27
  · have hf := (if_pos c6).symm.trans hf
    refine lv_iconst (v := 0) hx hb dX9_setAnchor_14 (by decide) ?_
    exact W.iret hx hb hr (fun t ht hW => ⟨⟨_, _, rfl, (Prod.mk.inj (Option.some.inj hf)), zt_go hE hP hS zt_id ht hW⟩, hS.F ht⟩) hS.2.2 dX9_setAnchor_15

theorem zh_X9_trust : yX9_trust.cls = RX9 ∧ yX9_trust.cls ≠ "java/lang/invoke/MethodHandle" ∧ yX9_trust.cls ≠ "java/lang/invoke/VarHandle" ∧ (parseMethodDescriptor yX9_trust.desc).map (fun d => d.parameters.length) = some 2 := by decide +kernel
set_option maxHeartbeats 4000000 in
set_option maxRecDepth 100000 in
theorem m_X9_trust (l : Launch) (G : zt_G) {σ : zt_St} {x1 : Int32} {x2 : Int32} {r : Int32} {σ1 : zt_St} (hf : f_X9_trust σ x1 x2 = some (r, σ1)) : zt_Mi l G yX9_trust wsX9_trust 7 183 [.ref (zt_ad G 94), .int x1, .int x2] σ r σ1 := by
  refine Met.ofW (cc := cX9_trust) (maxL := 3) (ret := (some .int)) (by decide) rfl ?_
  intro p e s m args below meth c s₁ B hml hv
  obtain ⟨rfl, hBB⟩ := hv
  have hE := zt_B.env hBB; have hK := hE.2.1; have hP := hBB.2.1
  have hx := B.exec; have hb := B.bytes; have hr := B.returns; have hts := atoms_spec (ws := wsX9_trust) B.pre
  have hown : s.vm.findClass RX9 = some m.cls := findClass_of_methodNamed B.named
  have hlocks := B.notSynchronized
  have hS : va_S (zt_A G) s.heap s.heap [] := va_S.rf
  have hl := lv_entry ([.ref (zt_ad G 94), .int x1, .int x2]) (n := 3) (Nat.le_of_ble_eq_true rfl)
  rw [lg_entry_eq]
  generalize (lg_sl ([.ref (zt_ad G 94), .int x1, .int x2]) ++ List.replicate (3 - (lg_sl ([.ref (zt_ad G 94), .int x1, .int x2])).length) Slot.unset).toArray = ls at hl ⊢
  have hl : lv_has ls 3 [(0, .ref (zt_ad G 94)), (1, .int x1), (2, .int x2)] := hl
  show W p l e (zt_R 7 183) s m ([.ref (zt_ad G 94), .int x1, .int x2] : List Value).toArray below meth c s.heap [] 0 0 (MQ below (zt_Ci G r σ1) ([.ref (zt_ad G 94), .int x1, .int x2] : List Value).toArray s 0 0 (zt_A G)) (F0 m 0 ls [])
  have fl254 := hts (.fieldLink RX9 254 "ZoneTreeModel" "trusted" "I") (List.mem_cons_of_mem _ (List.mem_append_left _ (List.mem_append_left _ (List.mem_of_getElem? (i := 0) rfl))))
  have inX9 : ∀ w ∈ wsX90, w ∈ wsX9_trust := fun w h => (List.mem_cons_of_mem _ (List.mem_append_right _ h))
  unfold f_X9_trust at hf
  refine lv_aload_n hx hb dX9_trust_0 rfl (lv_at hl 0 rfl) ?_
  refine lv_iload_n hx hb dX9_trust_1 rfl (lv_at hl 1 rfl) ?_
  refine lv_iload_n hx hb dX9_trust_2 rfl (lv_at hl 2 rfl) ?_
  obtain ⟨v1, hvv1, hf⟩ := zt_bd_some hf
  refine va_calli (va_runS (As := [.int x1, .int x2]) (rest := [.ref (zt_ad G 94)]) ⟨hx, hb, hml, hown, hts⟩ (m_X9_isAsked l G (σ := σ) hvv1) (va_cwS 2 hts gX9_trust_X9_isAsked rfl rfl rfl zh_X9_isAsked ⟨Nat.le_of_ble_eq_true rfl, Nat.le_of_ble_eq_true rfl⟩) ⟨zt_blind, fun U hU hW => ⟨rfl, zt_go hE hP hS zt_id hU hW⟩⟩ rfl rfl hl.1 rfl (lv_room (Nat.le_of_ble_eq_true rfl)) dX9_trust_3 ⟨Nat.zero_le _, Nat.zero_le _⟩) hS (fun _ _ h => h) (fun _ h => h) (fun r u t H locs ht hvm hw hB _ _ hS => ?_)
  rw [hw.1]; have hB : zt_B G u t := hB; rw [hw.2] at hB; have hP := zt_B.P hB ht
  obtain ⟨⟨v3a, σ4a⟩, hvv3, hf⟩ := zt_bd_some hf
  obtain ⟨v3, hv3, hf⟩ := zt_lt_some hf; obtain ⟨σ4, hσ4, hf⟩ := zt_lt_some hf; rw [show (v3a, σ4a) = (v3, σ4) from by rw [hv3, hσ4]] at hvv3
  refine va_calli (va_runV (As := [.int v1]) (rest := []) ⟨hx, hb, hml, hown, hts⟩ (m_X9_asked l G (σ := σ) hvv3) (cwV 1 hts gX9_trust_X9_asked rfl rfl rfl zh_X9_asked ⟨Nat.le_of_ble_eq_true rfl, Nat.le_of_ble_eq_true rfl⟩) ⟨zt_blind, va_recv hK hP (ci := 8) (q0 := 94) rfl (zt_a8 (rfl : zt_kd 94 = 8)), fun U hU hW => ⟨rfl, zt_go hE hP hS zt_id hU hW⟩⟩ rfl rfl hl.1 rfl (lv_room (Nat.le_of_ble_eq_true rfl)) dX9_trust_6 ⟨Nat.zero_le _, Nat.zero_le _⟩) hS (fun _ _ h => h) (fun _ h => h) (fun r u t H locs ht hvm hw hB _ _ hS => ?_)
  rw [hw.1]; have hB : zt_B G u t := hB; rw [hw.2] at hB; have hP := zt_B.P hB ht
  refine lv_if_ne (tgt := 14) hx hb dX9_trust_9 (by decide) (fun c6 => ?_) (fun c6 => ?_)
  · have hf := (if_neg c6).symm.trans hf
    refine lv_aload_n hx hb dX9_trust_14 rfl (lv_at hl 0 rfl) ?_
    refine lv_iload_n hx hb dX9_trust_15 rfl (lv_at hl 1 rfl) ?_
    refine lv_iload_n hx hb dX9_trust_16 rfl (lv_at hl 2 rfl) ?_
    refine lv_iconst (v := 1) hx hb dX9_trust_17 (by decide) ?_
    refine lv_iconst (v := 0) hx hb dX9_trust_18 (by decide) ?_
    obtain ⟨⟨v7a, σ8a⟩, hvv7, hf⟩ := zt_bd_some hf
    obtain ⟨v7, hv7, hf⟩ := zt_lt_some hf; obtain ⟨σ8, hσ8, hf⟩ := zt_lt_some hf; rw [show (v7a, σ8a) = (v7, σ8) from by rw [hv7, hσ8]] at hvv7
    refine va_calli (va_runV (As := [.int x1, .int x2, .int 1, .int 0]) (rest := []) ⟨hx, hb, hml, hown, hts⟩ (m_X9_resolves l G (σ := σ4) hvv7) (cwV 4 hts gX9_trust_X9_resolves rfl rfl rfl zh_X9_resolves ⟨Nat.le_of_ble_eq_true rfl, Nat.le_of_ble_eq_true rfl⟩) ⟨zt_blind, va_recv hK hP (ci := 8) (q0 := 94) rfl (zt_a8 (rfl : zt_kd 94 = 8)), fun U hU hW => ⟨rfl, zt_go hE hP hS zt_id hU hW⟩⟩ rfl rfl hl.1 rfl (lv_room (Nat.le_of_ble_eq_true rfl)) dX9_trust_19 ⟨Nat.zero_le _, Nat.zero_le _⟩) hS (fun _ _ h => h) (fun _ h => h) (fun r u t H locs ht hvm hw hB _ _ hS => ?_)
    rw [hw.1]; have hB : zt_B G u t := hB; rw [hw.2] at hB; have hP := zt_B.P hB ht
    refine lv_bipush (v := 6) hx hb dX9_trust_22 (by decide +kernel) ?_
    refine lv_icmp_ne (tgt := 31) hx hb dX9_trust_24 (by decide) (fun c10 => ?_) (fun c10 => ?_)
    · have hf := (if_neg c10).symm.trans hf
      refine lv_aload_n hx hb dX9_trust_31 rfl (lv_at hl 0 rfl) ?_
      refine va_get (D := zt_D G) (ci := 8) (v := .int (σ8 94 36)) (C := RX9) (T := TX9) (N := 37) hx hb hts inX9 hown hK hP 94 (zt_a8 (rfl : zt_kd 94 = 8)) rfl 36 (by decide) fl254 (fun _ h9 => h9) rfl dX9_trust_32 ?_
      exact W.iret hx hb hr (fun t ht hW => ⟨⟨_, _, rfl, (Prod.mk.inj (Option.some.inj hf)), zt_go hE hP hS zt_id ht hW⟩, hS.F ht⟩) hS.2.2 dX9_trust_35
    · have hf := (if_pos c10).symm.trans hf
      refine lv_iconst (v := (-1)) hx hb dX9_trust_27 (by decide) ?_
      refine lv_goto (tgt := 35) hx hb dX9_trust_28 (by decide) ?_
      exact W.iret hx hb hr (fun t ht hW => ⟨⟨_, _, rfl, (Prod.mk.inj (Option.some.inj hf)), zt_go hE hP hS zt_id ht hW⟩, hS.F ht⟩) hS.2.2 dX9_trust_35
  · have hf := (if_pos c6).symm.trans hf
    refine lv_iconst (v := 0) hx hb dX9_trust_12 (by decide) ?_
    exact W.iret hx hb hr (fun t ht hW => ⟨⟨_, _, rfl, (Prod.mk.inj (Option.some.inj hf)), zt_go hE hP hS zt_id ht hW⟩, hS.F ht⟩) hS.2.2 dX9_trust_13

