/-! contracts over the machine, by program: each method does what its function says -/
theorem zh_L_zone : yL_zone.cls ≠ "java/lang/invoke/MethodHandle" ∧ yL_zone.cls ≠ "java/lang/invoke/VarHandle" ∧ (parseMethodDescriptor yL_zone.desc).map (fun d => d.parameters.length) = some 4 := by decide +kernel
set_option maxHeartbeats 4000000 in
set_option maxRecDepth 100000 in
theorem m_L_zone (l : Launch) (hl2 : l.stackTraces = false) (G : zt_G) {σ : zt_St} {x1 : Int32} {x2 : Int32} {r : Int32} {σ1 : zt_St} {sz : Nat} (hf : f_L_zone σ x1 x2 = some (r, σ1)) : zt_MU l G yL_zone wsL_zone 7 104 1 6 [.ref (zt_ad G 0), .int x1, .int x2, .ref (zt_ad G 122)] sz σ r σ1 := by
  refine vx_ofWH (cc := cL_zone) (maxL := 5) (ret := (some .int)) (hh := [(0, 10, 13, 13), (0, 10, 17, 15)]) (by decide) rfl ?_
  intro p e s m args below meth c s₁ B hml hv
  have htab : c.exceptionTable.toList = tableOf [(0, 10, 13, 13), (0, 10, 17, 15)] := vx_table (x := yL_zone) B (atoms_spec (ws := wsL_zone) B.pre _ List.mem_cons_self)
  obtain ⟨rfl, rfl, hBB, hX⟩ := hv
  have hE := zt_B.env hBB; have hK := hE.2.1; have hP := hBB.2.1
  have hx := B.exec; have hb := B.bytes; have hr := B.returns; have hts := atoms_spec (ws := wsL_zone) B.pre
  have hown : s.vm.findClass RL = some m.cls := findClass_of_methodNamed B.named
  have hlocks := B.notSynchronized
  have hS : va_S (zt_A2 G s.heap.size) s.heap s.heap [] := va_S.rf
  have hl := lv_entry ([.ref (zt_ad G 0), .int x1, .int x2, .ref (zt_ad G 122)]) (n := 5) (Nat.le_of_ble_eq_true rfl)
  rw [lg_entry_eq]
  generalize (lg_sl ([.ref (zt_ad G 0), .int x1, .int x2, .ref (zt_ad G 122)]) ++ List.replicate (5 - (lg_sl ([.ref (zt_ad G 0), .int x1, .int x2, .ref (zt_ad G 122)])).length) Slot.unset).toArray = ls at hl ⊢
  have hl : lv_has ls 5 [(0, .ref (zt_ad G 0)), (1, .int x1), (2, .int x2), (3, .ref (zt_ad G 122))] := hl
  show W p l e (zt_RX 7 104 1 6) s m ([.ref (zt_ad G 0), .int x1, .int x2, .ref (zt_ad G 122)] : List Value).toArray below meth c s.heap [] 0 0 (vx_MQ below (zt_Ui G r σ1 s.heap.size) (zt_UX G s.heap.size) ([.ref (zt_ad G 0), .int x1, .int x2, .ref (zt_ad G 122)] : List Value).toArray s 1 6 (zt_A2 G s.heap.size)) (F0 m 0 ls [])
  unfold f_L_zone at hf
  refine lv_aload_n hx hb dL_zone_0 rfl (lv_at hl 3 rfl) ?_
  refine lv_iconst (v := 0) hx hb dL_zone_1 (by decide) ?_
  refine lv_aload_n hx hb dL_zone_2 rfl (lv_at hl 0 rfl) ?_
  refine lv_iload_n hx hb dL_zone_3 rfl (lv_at hl 1 rfl) ?_
  refine lv_iload_n hx hb dL_zone_4 rfl (lv_at hl 2 rfl) ?_
  obtain ⟨e1, v1, σ2, hvv1, hzv1⟩ := zt_bl_some hf
  refine vx_calli (vx_runV (As := [.int x1, .int x2]) (rest := [.int 0, .ref (zt_ad G 122)]) ⟨hx, hb, hml, hown, hts⟩ (m_X8_zone l hl2 G (σ := σ) hvv1) (cwV 2 hts gL_zone_X8_zone rfl rfl rfl zh_X8_zone ⟨Nat.le_of_ble_eq_true rfl, Nat.le_of_ble_eq_true rfl⟩) ⟨zt_blind2, va_recv hK hP (ci := 7) (q0 := 0) rfl (zt_a7 (rfl : zt_kd 0 = 7)), fun U hU hW => ⟨rfl, zt_go2 hE hX hP hS hU hW⟩⟩ rfl rfl hl.1 rfl (lv_room (Nat.le_of_ble_eq_true rfl)) dL_zone_5 ⟨Nat.le_of_ble_eq_true rfl, Nat.le_of_ble_eq_true rfl⟩) hS (zt_dn hS) (zt_up hS) (zt_dn hS) (fun E ce q9 u t H locs ht hvm hw hB _ _ hS hce hcv hcl => ?_) (fun r u t H locs ht hvm hw hB _ _ hS => ?_)
  · rcases hzv1 with ⟨h0, -⟩ | ⟨-, hf⟩
    · exact absurd h0 (zt_exc_ne hB.1)
    have hP := hB.2; rw [hw, ht] at hP
    rcases hB.1 with ⟨he, hEE⟩ | ⟨he, hEE⟩ | ⟨he, hEE⟩
    · subst hEE
      have hf := (if_pos he).symm.trans hf
      refine vx_catch (name := "java/lang/IllegalArgumentException") hown [] ⟨0, 10, 13, 13⟩ [⟨0, 10, 17, 15⟩] (by rw [htab]; rfl) (fun z hz => absurd hz List.not_mem_nil) (by decide) (by decide) (hts (.classLink RL 13 "java/lang/IllegalArgumentException") (List.mem_cons_of_mem _ (List.mem_append_left _ (List.mem_append_left _ (List.mem_append_left _ (List.mem_append_left _ (List.mem_append_left _ (List.mem_append_left _ (List.mem_of_getElem? (i := 0) rfl))))))))) (va_Nw.use rfl (hX.2.2.2.2.1 ("java/lang/IllegalArgumentException", "java/lang/IllegalArgumentException") (List.mem_of_getElem? (i := 0) rfl))) hce hcv hcl ?_
      refine lv_astore (lv' := [(4, .ref q9), (0, .ref (zt_ad G 0)), (1, .int x1), (2, .int x2), (3, .ref (zt_ad G 122))]) hx hb dL_zone_13 hl (by decide) rfl (fun ls hl => ?_)
      refine lv_iconst (v := 1) hx hb dL_zone_15 (by decide) ?_
      refine vx_ret ?_; refine W.widen (k := 1) (n := 6) (Nat.le_of_ble_eq_true rfl) (Nat.le_of_ble_eq_true rfl) ?_
      exact W.iret hx hb hr (fun t ht hW => ⟨⟨_, _, rfl, (Prod.mk.inj (Option.some.inj hf)), zt_go hE hP hS zt_id2 ht hW⟩, hS.F ht⟩) hS.2.2 dL_zone_16
    · subst hEE
      have hf := (if_neg (show ¬ e1 = 1 by rw [he]; decide)).symm.trans hf
      have hf := (if_pos he).symm.trans hf
      refine vx_catch (name := "java/lang/IllegalStateException") hown [⟨0, 10, 13, 13⟩] ⟨0, 10, 17, 15⟩ [] (by rw [htab]; rfl) (fun z hz => by
                      rcases List.mem_cons.mp hz with rfl | hz
                      · exact Or.inr ⟨by decide, _, hts (.classLink RL 13 "java/lang/IllegalArgumentException") (List.mem_cons_of_mem _ (List.mem_append_left _ (List.mem_append_left _ (List.mem_append_left _ (List.mem_append_left _ (List.mem_append_left _ (List.mem_append_left _ (List.mem_of_getElem? (i := 0) rfl)))))))), hX.2.2.2.2.2 ("java/lang/IllegalStateException", "java/lang/IllegalArgumentException") (List.mem_of_getElem? (i := 2) rfl)⟩
                      exact absurd hz List.not_mem_nil) (by decide) (by decide) (hts (.classLink RL 15 "java/lang/IllegalStateException") (List.mem_cons_of_mem _ (List.mem_append_left _ (List.mem_append_left _ (List.mem_append_left _ (List.mem_append_left _ (List.mem_append_left _ (List.mem_append_left _ (List.mem_of_getElem? (i := 1) rfl))))))))) (va_Nw.use rfl (hX.2.2.2.2.1 ("java/lang/IllegalStateException", "java/lang/IllegalStateException") (List.mem_of_getElem? (i := 1) rfl))) hce hcv hcl ?_
      refine lv_astore (lv' := [(4, .ref q9), (0, .ref (zt_ad G 0)), (1, .int x1), (2, .int x2), (3, .ref (zt_ad G 122))]) hx hb dL_zone_17 hl (by decide) rfl (fun ls hl => ?_)
      refine lv_iconst (v := 2) hx hb dL_zone_19 (by decide) ?_
      refine vx_ret ?_; refine W.widen (k := 1) (n := 6) (Nat.le_of_ble_eq_true rfl) (Nat.le_of_ble_eq_true rfl) ?_
      exact W.iret hx hb hr (fun t ht hW => ⟨⟨_, _, rfl, (Prod.mk.inj (Option.some.inj hf)), zt_go hE hP hS zt_id2 ht hW⟩, hS.F ht⟩) hS.2.2 dL_zone_20
    · exfalso
      have hf := (if_neg (show ¬ e1 = 1 by rw [he]; decide)).symm.trans hf
      have hf := (if_neg (show ¬ e1 = 2 by rw [he]; decide)).symm.trans hf
      exact nomatch hf
  rcases hzv1 with ⟨-, hf⟩ | ⟨h0, -⟩
  rotate_left
  · exact absurd hw.1 h0
  rw [hw.2.1]; have hB : zt_B G u t := hB; rw [hw.2.2] at hB; have hP := zt_B.P hB ht
  refine W.cs (cells' := 1) (slots' := 6) rfl rfl ?_
  refine lv_i2l (v := (v1 : Int32).toInt64) hx hb dL_zone_8 rfl ?_
  obtain ⟨σ3, hσ3, hf⟩ := zt_lt_some hf
  refine va_last hx hb hK hP (zt_apart2 hE.1) hS 122 3 (zt_a12 (k := 122) rfl) rfl (zt_gI_in (show zt_gI 0 1 = true by decide +kernel)) dL_zone_9 (fun H locs hP _ hS => ?_)
  rw [show ((0 : Int32).toNatClampNeg) = 0 from by decide, zt_p12 (k := 122) rfl, ← hσ3] at hP
  refine lv_goto (tgt := 21) hx hb dL_zone_10 (by decide) ?_
  refine lv_iconst (v := 0) hx hb dL_zone_21 (by decide) ?_
  refine vx_ret ?_; refine W.widen (k := 1) (n := 6) (Nat.le_of_ble_eq_true rfl) (Nat.le_of_ble_eq_true rfl) ?_
  exact W.iret hx hb hr (fun t ht hW => ⟨⟨_, _, rfl, (Prod.mk.inj (Option.some.inj hf)), zt_go hE hP hS zt_id2 ht hW⟩, hS.F ht⟩) hS.2.2 dL_zone_22

theorem zh_L_need : yL_need.cls ≠ "java/lang/invoke/MethodHandle" ∧ yL_need.cls ≠ "java/lang/invoke/VarHandle" ∧ (parseMethodDescriptor yL_need.desc).map (fun d => d.parameters.length) = some 5 := by decide +kernel
set_option maxHeartbeats 4000000 in
set_option maxRecDepth 100000 in
theorem m_L_need (l : Launch) (hl2 : l.stackTraces = false) (G : zt_G) {σ : zt_St} {x1 : Int32} {x2 : Int32} {x3 : Int32} {r : Int32} {σ1 : zt_St} {sz : Nat} (hf : f_L_need σ x1 x2 x3 = some (r, σ1)) : zt_MU l G yL_need wsL_need 8 126 2 12 [.ref (zt_ad G 0), .int x1, .int x2, .int x3, .ref (zt_ad G 122)] sz σ r σ1 := by
  refine vx_ofWH (cc := cL_need) (maxL := 6) (ret := (some .int)) (hh := [(0, 12, 15, 13), (0, 12, 19, 15)]) (by decide) rfl ?_
  intro p e s m args below meth c s₁ B hml hv
  have htab : c.exceptionTable.toList = tableOf [(0, 12, 15, 13), (0, 12, 19, 15)] := vx_table (x := yL_need) B (atoms_spec (ws := wsL_need) B.pre _ List.mem_cons_self)
  obtain ⟨rfl, rfl, hBB, hX⟩ := hv
  have hE := zt_B.env hBB; have hK := hE.2.1; have hP := hBB.2.1
  have hx := B.exec; have hb := B.bytes; have hr := B.returns; have hts := atoms_spec (ws := wsL_need) B.pre
  have hown : s.vm.findClass RL = some m.cls := findClass_of_methodNamed B.named
  have hlocks := B.notSynchronized
  have hS : va_S (zt_A2 G s.heap.size) s.heap s.heap [] := va_S.rf
  have hl := lv_entry ([.ref (zt_ad G 0), .int x1, .int x2, .int x3, .ref (zt_ad G 122)]) (n := 6) (Nat.le_of_ble_eq_true rfl)
  rw [lg_entry_eq]
  generalize (lg_sl ([.ref (zt_ad G 0), .int x1, .int x2, .int x3, .ref (zt_ad G 122)]) ++ List.replicate (6 - (lg_sl ([.ref (zt_ad G 0), .int x1, .int x2, .int x3, .ref (zt_ad G 122)])).length) Slot.unset).toArray = ls at hl ⊢
  have hl : lv_has ls 6 [(0, .ref (zt_ad G 0)), (1, .int x1), (2, .int x2), (3, .int x3), (4, .ref (zt_ad G 122))] := hl
  show W p l e (zt_RX 8 126 2 12) s m ([.ref (zt_ad G 0), .int x1, .int x2, .int x3, .ref (zt_ad G 122)] : List Value).toArray below meth c s.heap [] 0 0 (vx_MQ below (zt_Ui G r σ1 s.heap.size) (zt_UX G s.heap.size) ([.ref (zt_ad G 0), .int x1, .int x2, .int x3, .ref (zt_ad G 122)] : List Value).toArray s 2 12 (zt_A2 G s.heap.size)) (F0 m 0 ls [])
  unfold f_L_need at hf
  refine lv_aload hx hb dL_need_0 (lv_at hl 4 rfl) ?_
  refine lv_iconst (v := 0) hx hb dL_need_2 (by decide) ?_
  refine lv_aload_n hx hb dL_need_3 rfl (lv_at hl 0 rfl) ?_
  refine lv_iload_n hx hb dL_need_4 rfl (lv_at hl 1 rfl) ?_
  refine lv_iload_n hx hb dL_need_5 rfl (lv_at hl 2 rfl) ?_
  refine lv_iload_n hx hb dL_need_6 rfl (lv_at hl 3 rfl) ?_
  obtain ⟨e1, v1, σ2, hvv1, hzv1⟩ := zt_bl_some hf
  refine vx_calli (vx_runV (As := [.int x1, .int x2, .int x3]) (rest := [.int 0, .ref (zt_ad G 122)]) ⟨hx, hb, hml, hown, hts⟩ (m_X8_need l hl2 G (σ := σ) hvv1) (cwV 3 hts gL_need_X8_need rfl rfl rfl zh_X8_need ⟨Nat.le_of_ble_eq_true rfl, Nat.le_of_ble_eq_true rfl⟩) ⟨zt_blind2, va_recv hK hP (ci := 7) (q0 := 0) rfl (zt_a7 (rfl : zt_kd 0 = 7)), fun U hU hW => ⟨rfl, zt_go2 hE hX hP hS hU hW⟩⟩ rfl rfl hl.1 rfl (lv_room (Nat.le_of_ble_eq_true rfl)) dL_need_7 ⟨Nat.le_of_ble_eq_true rfl, Nat.le_of_ble_eq_true rfl⟩) hS (zt_dn hS) (zt_up hS) (zt_dn hS) (fun E ce q9 u t H locs ht hvm hw hB _ _ hS hce hcv hcl => ?_) (fun r u t H locs ht hvm hw hB _ _ hS => ?_)
  · rcases hzv1 with ⟨h0, -⟩ | ⟨-, hf⟩
    · exact absurd h0 (zt_exc_ne hB.1)
    have hP := hB.2; rw [hw, ht] at hP
    rcases hB.1 with ⟨he, hEE⟩ | ⟨he, hEE⟩ | ⟨he, hEE⟩
    · subst hEE
      have hf := (if_pos he).symm.trans hf
      refine vx_catch (name := "java/lang/IllegalArgumentException") hown [] ⟨0, 12, 15, 13⟩ [⟨0, 12, 19, 15⟩] (by rw [htab]; rfl) (fun z hz => absurd hz List.not_mem_nil) (by decide) (by decide) (hts (.classLink RL 13 "java/lang/IllegalArgumentException") (List.mem_cons_of_mem _ (List.mem_append_left _ (List.mem_append_left _ (List.mem_append_left _ (List.mem_append_left _ (List.mem_append_left _ (List.mem_of_getElem? (i := 0) rfl)))))))) (va_Nw.use rfl (hX.2.2.2.2.1 ("java/lang/IllegalArgumentException", "java/lang/IllegalArgumentException") (List.mem_of_getElem? (i := 0) rfl))) hce hcv hcl ?_
      refine lv_astore (lv' := [(5, .ref q9), (0, .ref (zt_ad G 0)), (1, .int x1), (2, .int x2), (3, .int x3), (4, .ref (zt_ad G 122))]) hx hb dL_need_15 hl (by decide) rfl (fun ls hl => ?_)
      refine lv_iconst (v := 1) hx hb dL_need_17 (by decide) ?_
      refine vx_ret ?_; refine W.widen (k := 2) (n := 12) (Nat.le_of_ble_eq_true rfl) (Nat.le_of_ble_eq_true rfl) ?_
      exact W.iret hx hb hr (fun t ht hW => ⟨⟨_, _, rfl, (Prod.mk.inj (Option.some.inj hf)), zt_go hE hP hS zt_id2 ht hW⟩, hS.F ht⟩) hS.2.2 dL_need_18
    · subst hEE
      have hf := (if_neg (show ¬ e1 = 1 by rw [he]; decide)).symm.trans hf
      have hf := (if_pos he).symm.trans hf
      refine vx_catch (name := "java/lang/IllegalStateException") hown [⟨0, 12, 15, 13⟩] ⟨0, 12, 19, 15⟩ [] (by rw [htab]; rfl) (fun z hz => by
                      rcases List.mem_cons.mp hz with rfl | hz
                      · exact Or.inr ⟨by decide, _, hts (.classLink RL 13 "java/lang/IllegalArgumentException") (List.mem_cons_of_mem _ (List.mem_append_left _ (List.mem_append_left _ (List.mem_append_left _ (List.mem_append_left _ (List.mem_append_left _ (List.mem_of_getElem? (i := 0) rfl))))))), hX.2.2.2.2.2 ("java/lang/IllegalStateException", "java/lang/IllegalArgumentException") (List.mem_of_getElem? (i := 2) rfl)⟩
                      exact absurd hz List.not_mem_nil) (by decide) (by decide) (hts (.classLink RL 15 "java/lang/IllegalStateException") (List.mem_cons_of_mem _ (List.mem_append_left _ (List.mem_append_left _ (List.mem_append_left _ (List.mem_append_left _ (List.mem_append_left _ (List.mem_of_getElem? (i := 1) rfl)))))))) (va_Nw.use rfl (hX.2.2.2.2.1 ("java/lang/IllegalStateException", "java/lang/IllegalStateException") (List.mem_of_getElem? (i := 1) rfl))) hce hcv hcl ?_
      refine lv_astore (lv' := [(5, .ref q9), (0, .ref (zt_ad G 0)), (1, .int x1), (2, .int x2), (3, .int x3), (4, .ref (zt_ad G 122))]) hx hb dL_need_19 hl (by decide) rfl (fun ls hl => ?_)
      refine lv_iconst (v := 2) hx hb dL_need_21 (by decide) ?_
      refine vx_ret ?_; refine W.widen (k := 2) (n := 12) (Nat.le_of_ble_eq_true rfl) (Nat.le_of_ble_eq_true rfl) ?_
      exact W.iret hx hb hr (fun t ht hW => ⟨⟨_, _, rfl, (Prod.mk.inj (Option.some.inj hf)), zt_go hE hP hS zt_id2 ht hW⟩, hS.F ht⟩) hS.2.2 dL_need_22
    · exfalso
      have hf := (if_neg (show ¬ e1 = 1 by rw [he]; decide)).symm.trans hf
      have hf := (if_neg (show ¬ e1 = 2 by rw [he]; decide)).symm.trans hf
      exact nomatch hf
  rcases hzv1 with ⟨-, hf⟩ | ⟨h0, -⟩
  rotate_left
  · exact absurd hw.1 h0
  rw [hw.2.1]; have hB : zt_B G u t := hB; rw [hw.2.2] at hB; have hP := zt_B.P hB ht
  refine W.cs (cells' := 2) (slots' := 12) rfl rfl ?_
  refine lv_i2l (v := (v1 : Int32).toInt64) hx hb dL_need_10 rfl ?_
  obtain ⟨σ3, hσ3, hf⟩ := zt_lt_some hf
  refine va_last hx hb hK hP (zt_apart2 hE.1) hS 122 3 (zt_a12 (k := 122) rfl) rfl (zt_gI_in (show zt_gI 0 1 = true by decide +kernel)) dL_need_11 (fun H locs hP _ hS => ?_)
  rw [show ((0 : Int32).toNatClampNeg) = 0 from by decide, zt_p12 (k := 122) rfl, ← hσ3] at hP
  refine lv_goto (tgt := 23) hx hb dL_need_12 (by decide) ?_
  refine lv_iconst (v := 0) hx hb dL_need_23 (by decide) ?_
  refine vx_ret ?_; refine W.widen (k := 2) (n := 12) (Nat.le_of_ble_eq_true rfl) (Nat.le_of_ble_eq_true rfl) ?_
  exact W.iret hx hb hr (fun t ht hW => ⟨⟨_, _, rfl, (Prod.mk.inj (Option.some.inj hf)), zt_go hE hP hS zt_id2 ht hW⟩, hS.F ht⟩) hS.2.2 dL_need_24

theorem zh_L_put : yL_put.cls ≠ "java/lang/invoke/MethodHandle" ∧ yL_put.cls ≠ "java/lang/invoke/VarHandle" ∧ (parseMethodDescriptor yL_put.desc).map (fun d => d.parameters.length) = some 6 := by decide +kernel
set_option maxHeartbeats 4000000 in
set_option maxRecDepth 100000 in
theorem m_L_put (l : Launch) (hl2 : l.stackTraces = false) (G : zt_G) {σ : zt_St} {x1 : Int32} {x2 : Int32} {x3 : Int32} {x4 : Int32} {r : Int32} {σ1 : zt_St} {sz : Nat} (hf : f_L_put σ x1 x2 x3 x4 = some (r, σ1)) : zt_MU l G yL_put wsL_put 8 127 3 18 [.ref (zt_ad G 0), .int x1, .int x2, .int x3, .int x4, .ref (zt_ad G 122)] sz σ r σ1 := by
  refine vx_ofWH (cc := cL_put) (maxL := 7) (ret := (some .int)) (hh := [(0, 14, 17, 13), (0, 14, 21, 15)]) (by decide) rfl ?_
  intro p e s m args below meth c s₁ B hml hv
  have htab : c.exceptionTable.toList = tableOf [(0, 14, 17, 13), (0, 14, 21, 15)] := vx_table (x := yL_put) B (atoms_spec (ws := wsL_put) B.pre _ List.mem_cons_self)
  obtain ⟨rfl, rfl, hBB, hX⟩ := hv
  have hE := zt_B.env hBB; have hK := hE.2.1; have hP := hBB.2.1
  have hx := B.exec; have hb := B.bytes; have hr := B.returns; have hts := atoms_spec (ws := wsL_put) B.pre
  have hown : s.vm.findClass RL = some m.cls := findClass_of_methodNamed B.named
  have hlocks := B.notSynchronized
  have hS : va_S (zt_A2 G s.heap.size) s.heap s.heap [] := va_S.rf
  have hl := lv_entry ([.ref (zt_ad G 0), .int x1, .int x2, .int x3, .int x4, .ref (zt_ad G 122)]) (n := 7) (Nat.le_of_ble_eq_true rfl)
  rw [lg_entry_eq]
  generalize (lg_sl ([.ref (zt_ad G 0), .int x1, .int x2, .int x3, .int x4, .ref (zt_ad G 122)]) ++ List.replicate (7 - (lg_sl ([.ref (zt_ad G 0), .int x1, .int x2, .int x3, .int x4, .ref (zt_ad G 122)])).length) Slot.unset).toArray = ls at hl ⊢
  have hl : lv_has ls 7 [(0, .ref (zt_ad G 0)), (1, .int x1), (2, .int x2), (3, .int x3), (4, .int x4), (5, .ref (zt_ad G 122))] := hl
  show W p l e (zt_RX 8 127 3 18) s m ([.ref (zt_ad G 0), .int x1, .int x2, .int x3, .int x4, .ref (zt_ad G 122)] : List Value).toArray below meth c s.heap [] 0 0 (vx_MQ below (zt_Ui G r σ1 s.heap.size) (zt_UX G s.heap.size) ([.ref (zt_ad G 0), .int x1, .int x2, .int x3, .int x4, .ref (zt_ad G 122)] : List Value).toArray s 3 18 (zt_A2 G s.heap.size)) (F0 m 0 ls [])
  unfold f_L_put at hf
  refine lv_aload hx hb dL_put_0 (lv_at hl 5 rfl) ?_
  refine lv_iconst (v := 0) hx hb dL_put_2 (by decide) ?_
  refine lv_aload_n hx hb dL_put_3 rfl (lv_at hl 0 rfl) ?_
  refine lv_iload_n hx hb dL_put_4 rfl (lv_at hl 1 rfl) ?_
  refine lv_iload_n hx hb dL_put_5 rfl (lv_at hl 2 rfl) ?_
  refine lv_iload_n hx hb dL_put_6 rfl (lv_at hl 3 rfl) ?_
  refine lv_iload hx hb dL_put_7 (lv_at hl 4 rfl) ?_
  obtain ⟨e1, v1, σ2, hvv1, hzv1⟩ := zt_bl_some hf
  refine vx_calli (vx_runV (As := [.int x1, .int x2, .int x3, .int x4]) (rest := [.int 0, .ref (zt_ad G 122)]) ⟨hx, hb, hml, hown, hts⟩ (m_X8_put l hl2 G (σ := σ) hvv1) (cwV 4 hts gL_put_X8_put rfl rfl rfl zh_X8_put ⟨Nat.le_of_ble_eq_true rfl, Nat.le_of_ble_eq_true rfl⟩) ⟨zt_blind2, va_recv hK hP (ci := 7) (q0 := 0) rfl (zt_a7 (rfl : zt_kd 0 = 7)), fun U hU hW => ⟨rfl, zt_go2 hE hX hP hS hU hW⟩⟩ rfl rfl hl.1 rfl (lv_room (Nat.le_of_ble_eq_true rfl)) dL_put_9 ⟨Nat.le_of_ble_eq_true rfl, Nat.le_of_ble_eq_true rfl⟩) hS (zt_dn hS) (zt_up hS) (zt_dn hS) (fun E ce q9 u t H locs ht hvm hw hB _ _ hS hce hcv hcl => ?_) (fun r u t H locs ht hvm hw hB _ _ hS => ?_)
  · rcases hzv1 with ⟨h0, -⟩ | ⟨-, hf⟩
    · exact absurd h0 (zt_exc_ne hB.1)
    have hP := hB.2; rw [hw, ht] at hP
    rcases hB.1 with ⟨he, hEE⟩ | ⟨he, hEE⟩ | ⟨he, hEE⟩
    · subst hEE
      have hf := (if_pos he).symm.trans hf
      refine vx_catch (name := "java/lang/IllegalArgumentException") hown [] ⟨0, 14, 17, 13⟩ [⟨0, 14, 21, 15⟩] (by rw [htab]; rfl) (fun z hz => absurd hz List.not_mem_nil) (by decide) (by decide) (hts (.classLink RL 13 "java/lang/IllegalArgumentException") (List.mem_cons_of_mem _ (List.mem_append_left _ (List.mem_append_left _ (List.mem_append_left _ (List.mem_append_left _ (List.mem_append_left _ (List.mem_of_getElem? (i := 0) rfl)))))))) (va_Nw.use rfl (hX.2.2.2.2.1 ("java/lang/IllegalArgumentException", "java/lang/IllegalArgumentException") (List.mem_of_getElem? (i := 0) rfl))) hce hcv hcl ?_
      refine lv_astore (lv' := [(6, .ref q9), (0, .ref (zt_ad G 0)), (1, .int x1), (2, .int x2), (3, .int x3), (4, .int x4), (5, .ref (zt_ad G 122))]) hx hb dL_put_17 hl (by decide) rfl (fun ls hl => ?_)
      refine lv_iconst (v := 1) hx hb dL_put_19 (by decide) ?_
      refine vx_ret ?_; refine W.widen (k := 3) (n := 18) (Nat.le_of_ble_eq_true rfl) (Nat.le_of_ble_eq_true rfl) ?_
      exact W.iret hx hb hr (fun t ht hW => ⟨⟨_, _, rfl, (Prod.mk.inj (Option.some.inj hf)), zt_go hE hP hS zt_id2 ht hW⟩, hS.F ht⟩) hS.2.2 dL_put_20
    · subst hEE
      have hf := (if_neg (show ¬ e1 = 1 by rw [he]; decide)).symm.trans hf
      have hf := (if_pos he).symm.trans hf
      refine vx_catch (name := "java/lang/IllegalStateException") hown [⟨0, 14, 17, 13⟩] ⟨0, 14, 21, 15⟩ [] (by rw [htab]; rfl) (fun z hz => by
                      rcases List.mem_cons.mp hz with rfl | hz
                      · exact Or.inr ⟨by decide, _, hts (.classLink RL 13 "java/lang/IllegalArgumentException") (List.mem_cons_of_mem _ (List.mem_append_left _ (List.mem_append_left _ (List.mem_append_left _ (List.mem_append_left _ (List.mem_append_left _ (List.mem_of_getElem? (i := 0) rfl))))))), hX.2.2.2.2.2 ("java/lang/IllegalStateException", "java/lang/IllegalArgumentException") (List.mem_of_getElem? (i := 2) rfl)⟩
                      exact absurd hz List.not_mem_nil) (by decide) (by decide) (hts (.classLink RL 15 "java/lang/IllegalStateException") (List.mem_cons_of_mem _ (List.mem_append_left _ (List.mem_append_left _ (List.mem_append_left _ (List.mem_append_left _ (List.mem_append_left _ (List.mem_of_getElem? (i := 1) rfl)))))))) (va_Nw.use rfl (hX.2.2.2.2.1 ("java/lang/IllegalStateException", "java/lang/IllegalStateException") (List.mem_of_getElem? (i := 1) rfl))) hce hcv hcl ?_
      refine lv_astore (lv' := [(6, .ref q9), (0, .ref (zt_ad G 0)), (1, .int x1), (2, .int x2), (3, .int x3), (4, .int x4), (5, .ref (zt_ad G 122))]) hx hb dL_put_21 hl (by decide) rfl (fun ls hl => ?_)
      refine lv_iconst (v := 2) hx hb dL_put_23 (by decide) ?_
      refine vx_ret ?_; refine W.widen (k := 3) (n := 18) (Nat.le_of_ble_eq_true rfl) (Nat.le_of_ble_eq_true rfl) ?_
      exact W.iret hx hb hr (fun t ht hW => ⟨⟨_, _, rfl, (Prod.mk.inj (Option.some.inj hf)), zt_go hE hP hS zt_id2 ht hW⟩, hS.F ht⟩) hS.2.2 dL_put_24
    · exfalso
      have hf := (if_neg (show ¬ e1 = 1 by rw [he]; decide)).symm.trans hf
      have hf := (if_neg (show ¬ e1 = 2 by rw [he]; decide)).symm.trans hf
      exact nomatch hf
  rcases hzv1 with ⟨-, hf⟩ | ⟨h0, -⟩
  rotate_left
  · exact absurd hw.1 h0
  rw [hw.2.1]; have hB : zt_B G u t := hB; rw [hw.2.2] at hB; have hP := zt_B.P hB ht
  refine W.cs (cells' := 3) (slots' := 18) rfl rfl ?_
  refine lv_i2l (v := (v1 : Int32).toInt64) hx hb dL_put_12 rfl ?_
  obtain ⟨σ3, hσ3, hf⟩ := zt_lt_some hf
  refine va_last hx hb hK hP (zt_apart2 hE.1) hS 122 3 (zt_a12 (k := 122) rfl) rfl (zt_gI_in (show zt_gI 0 1 = true by decide +kernel)) dL_put_13 (fun H locs hP _ hS => ?_)
  rw [show ((0 : Int32).toNatClampNeg) = 0 from by decide, zt_p12 (k := 122) rfl, ← hσ3] at hP
  refine lv_goto (tgt := 25) hx hb dL_put_14 (by decide) ?_
  refine lv_iconst (v := 0) hx hb dL_put_25 (by decide) ?_
  refine vx_ret ?_; refine W.widen (k := 3) (n := 18) (Nat.le_of_ble_eq_true rfl) (Nat.le_of_ble_eq_true rfl) ?_
  exact W.iret hx hb hr (fun t ht hW => ⟨⟨_, _, rfl, (Prod.mk.inj (Option.some.inj hf)), zt_go hE hP hS zt_id2 ht hW⟩, hS.F ht⟩) hS.2.2 dL_put_26

theorem zh_L_drop : yL_drop.cls ≠ "java/lang/invoke/MethodHandle" ∧ yL_drop.cls ≠ "java/lang/invoke/VarHandle" ∧ (parseMethodDescriptor yL_drop.desc).map (fun d => d.parameters.length) = some 4 := by decide +kernel
set_option maxHeartbeats 4000000 in
set_option maxRecDepth 100000 in
theorem m_L_drop (l : Launch) (hl2 : l.stackTraces = false) (G : zt_G) {σ : zt_St} {x1 : Int32} {x2 : Int32} {r : Int32} {σ1 : zt_St} {sz : Nat} (hf : f_L_drop σ x1 x2 = some (r, σ1)) : zt_MU l G yL_drop wsL_drop 8 125 2 12 [.ref (zt_ad G 0), .int x1, .int x2, .ref (zt_ad G 122)] sz σ r σ1 := by
  refine vx_ofWH (cc := cL_drop) (maxL := 5) (ret := (some .int)) (hh := [(0, 10, 13, 13), (0, 10, 17, 15)]) (by decide) rfl ?_
  intro p e s m args below meth c s₁ B hml hv
  have htab : c.exceptionTable.toList = tableOf [(0, 10, 13, 13), (0, 10, 17, 15)] := vx_table (x := yL_drop) B (atoms_spec (ws := wsL_drop) B.pre _ List.mem_cons_self)
  obtain ⟨rfl, rfl, hBB, hX⟩ := hv
  have hE := zt_B.env hBB; have hK := hE.2.1; have hP := hBB.2.1
  have hx := B.exec; have hb := B.bytes; have hr := B.returns; have hts := atoms_spec (ws := wsL_drop) B.pre
  have hown : s.vm.findClass RL = some m.cls := findClass_of_methodNamed B.named
  have hlocks := B.notSynchronized
  have hS : va_S (zt_A2 G s.heap.size) s.heap s.heap [] := va_S.rf
  have hl := lv_entry ([.ref (zt_ad G 0), .int x1, .int x2, .ref (zt_ad G 122)]) (n := 5) (Nat.le_of_ble_eq_true rfl)
  rw [lg_entry_eq]
  generalize (lg_sl ([.ref (zt_ad G 0), .int x1, .int x2, .ref (zt_ad G 122)]) ++ List.replicate (5 - (lg_sl ([.ref (zt_ad G 0), .int x1, .int x2, .ref (zt_ad G 122)])).length) Slot.unset).toArray = ls at hl ⊢
  have hl : lv_has ls 5 [(0, .ref (zt_ad G 0)), (1, .int x1), (2, .int x2), (3, .ref (zt_ad G 122))] := hl
  show W p l e (zt_RX 8 125 2 12) s m ([.ref (zt_ad G 0), .int x1, .int x2, .ref (zt_ad G 122)] : List Value).toArray below meth c s.heap [] 0 0 (vx_MQ below (zt_Ui G r σ1 s.heap.size) (zt_UX G s.heap.size) ([.ref (zt_ad G 0), .int x1, .int x2, .ref (zt_ad G 122)] : List Value).toArray s 2 12 (zt_A2 G s.heap.size)) (F0 m 0 ls [])
  unfold f_L_drop at hf
  refine lv_aload_n hx hb dL_drop_0 rfl (lv_at hl 3 rfl) ?_
  refine lv_iconst (v := 0) hx hb dL_drop_1 (by decide) ?_
  refine lv_aload_n hx hb dL_drop_2 rfl (lv_at hl 0 rfl) ?_
  refine lv_iload_n hx hb dL_drop_3 rfl (lv_at hl 1 rfl) ?_
  refine lv_iload_n hx hb dL_drop_4 rfl (lv_at hl 2 rfl) ?_
  obtain ⟨e1, v1, σ2, hvv1, hzv1⟩ := zt_bl_some hf
  refine vx_calli (vx_runV (As := [.int x1, .int x2]) (rest := [.int 0, .ref (zt_ad G 122)]) ⟨hx, hb, hml, hown, hts⟩ (m_X8_drop l hl2 G (σ := σ) hvv1) (cwV 2 hts gL_drop_X8_drop rfl rfl rfl zh_X8_drop ⟨Nat.le_of_ble_eq_true rfl, Nat.le_of_ble_eq_true rfl⟩) ⟨zt_blind2, va_recv hK hP (ci := 7) (q0 := 0) rfl (zt_a7 (rfl : zt_kd 0 = 7)), fun U hU hW => ⟨rfl, zt_go2 hE hX hP hS hU hW⟩⟩ rfl rfl hl.1 rfl (lv_room (Nat.le_of_ble_eq_true rfl)) dL_drop_5 ⟨Nat.le_of_ble_eq_true rfl, Nat.le_of_ble_eq_true rfl⟩) hS (zt_dn hS) (zt_up hS) (zt_dn hS) (fun E ce q9 u t H locs ht hvm hw hB _ _ hS hce hcv hcl => ?_) (fun r u t H locs ht hvm hw hB _ _ hS => ?_)
  · rcases hzv1 with ⟨h0, -⟩ | ⟨-, hf⟩
    · exact absurd h0 (zt_exc_ne hB.1)
    have hP := hB.2; rw [hw, ht] at hP
    rcases hB.1 with ⟨he, hEE⟩ | ⟨he, hEE⟩ | ⟨he, hEE⟩
    · subst hEE
      have hf := (if_pos he).symm.trans hf
      refine vx_catch (name := "java/lang/IllegalArgumentException") hown [] ⟨0, 10, 13, 13⟩ [⟨0, 10, 17, 15⟩] (by rw [htab]; rfl) (fun z hz => absurd hz List.not_mem_nil) (by decide) (by decide) (hts (.classLink RL 13 "java/lang/IllegalArgumentException") (List.mem_cons_of_mem _ (List.mem_append_left _ (List.mem_append_left _ (List.mem_append_left _ (List.mem_append_left _ (List.mem_append_left _ (List.mem_of_getElem? (i := 0) rfl)))))))) (va_Nw.use rfl (hX.2.2.2.2.1 ("java/lang/IllegalArgumentException", "java/lang/IllegalArgumentException") (List.mem_of_getElem? (i := 0) rfl))) hce hcv hcl ?_
      refine lv_astore (lv' := [(4, .ref q9), (0, .ref (zt_ad G 0)), (1, .int x1), (2, .int x2), (3, .ref (zt_ad G 122))]) hx hb dL_drop_13 hl (by decide) rfl (fun ls hl => ?_)
      refine lv_iconst (v := 1) hx hb dL_drop_15 (by decide) ?_
      refine vx_ret ?_; refine W.widen (k := 2) (n := 12) (Nat.le_of_ble_eq_true rfl) (Nat.le_of_ble_eq_true rfl) ?_
      exact W.iret hx hb hr (fun t ht hW => ⟨⟨_, _, rfl, (Prod.mk.inj (Option.some.inj hf)), zt_go hE hP hS zt_id2 ht hW⟩, hS.F ht⟩) hS.2.2 dL_drop_16
    · subst hEE
      have hf := (if_neg (show ¬ e1 = 1 by rw [he]; decide)).symm.trans hf
      have hf := (if_pos he).symm.trans hf
      refine vx_catch (name := "java/lang/IllegalStateException") hown [⟨0, 10, 13, 13⟩] ⟨0, 10, 17, 15⟩ [] (by rw [htab]; rfl) (fun z hz => by
                      rcases List.mem_cons.mp hz with rfl | hz
                      · exact Or.inr ⟨by decide, _, hts (.classLink RL 13 "java/lang/IllegalArgumentException") (List.mem_cons_of_mem _ (List.mem_append_left _ (List.mem_append_left _ (List.mem_append_left _ (List.mem_append_left _ (List.mem_append_left _ (List.mem_of_getElem? (i := 0) rfl))))))), hX.2.2.2.2.2 ("java/lang/IllegalStateException", "java/lang/IllegalArgumentException") (List.mem_of_getElem? (i := 2) rfl)⟩
                      exact absurd hz List.not_mem_nil) (by decide) (by decide) (hts (.classLink RL 15 "java/lang/IllegalStateException") (List.mem_cons_of_mem _ (List.mem_append_left _ (List.mem_append_left _ (List.mem_append_left _ (List.mem_append_left _ (List.mem_append_left _ (List.mem_of_getElem? (i := 1) rfl)))))))) (va_Nw.use rfl (hX.2.2.2.2.1 ("java/lang/IllegalStateException", "java/lang/IllegalStateException") (List.mem_of_getElem? (i := 1) rfl))) hce hcv hcl ?_
      refine lv_astore (lv' := [(4, .ref q9), (0, .ref (zt_ad G 0)), (1, .int x1), (2, .int x2), (3, .ref (zt_ad G 122))]) hx hb dL_drop_17 hl (by decide) rfl (fun ls hl => ?_)
      refine lv_iconst (v := 2) hx hb dL_drop_19 (by decide) ?_
      refine vx_ret ?_; refine W.widen (k := 2) (n := 12) (Nat.le_of_ble_eq_true rfl) (Nat.le_of_ble_eq_true rfl) ?_
      exact W.iret hx hb hr (fun t ht hW => ⟨⟨_, _, rfl, (Prod.mk.inj (Option.some.inj hf)), zt_go hE hP hS zt_id2 ht hW⟩, hS.F ht⟩) hS.2.2 dL_drop_20
    · exfalso
      have hf := (if_neg (show ¬ e1 = 1 by rw [he]; decide)).symm.trans hf
      have hf := (if_neg (show ¬ e1 = 2 by rw [he]; decide)).symm.trans hf
      exact nomatch hf
  rcases hzv1 with ⟨-, hf⟩ | ⟨h0, -⟩
  rotate_left
  · exact absurd hw.1 h0
  rw [hw.2.1]; have hB : zt_B G u t := hB; rw [hw.2.2] at hB; have hP := zt_B.P hB ht
  refine W.cs (cells' := 2) (slots' := 12) rfl rfl ?_
  refine lv_i2l (v := (v1 : Int32).toInt64) hx hb dL_drop_8 rfl ?_
  obtain ⟨σ3, hσ3, hf⟩ := zt_lt_some hf
  refine va_last hx hb hK hP (zt_apart2 hE.1) hS 122 3 (zt_a12 (k := 122) rfl) rfl (zt_gI_in (show zt_gI 0 1 = true by decide +kernel)) dL_drop_9 (fun H locs hP _ hS => ?_)
  rw [show ((0 : Int32).toNatClampNeg) = 0 from by decide, zt_p12 (k := 122) rfl, ← hσ3] at hP
  refine lv_goto (tgt := 21) hx hb dL_drop_10 (by decide) ?_
  refine lv_iconst (v := 0) hx hb dL_drop_21 (by decide) ?_
  refine vx_ret ?_; refine W.widen (k := 2) (n := 12) (Nat.le_of_ble_eq_true rfl) (Nat.le_of_ble_eq_true rfl) ?_
  exact W.iret hx hb hr (fun t ht hW => ⟨⟨_, _, rfl, (Prod.mk.inj (Option.some.inj hf)), zt_go hE hP hS zt_id2 ht hW⟩, hS.F ht⟩) hS.2.2 dL_drop_22

theorem zh_L_update : yL_update.cls ≠ "java/lang/invoke/MethodHandle" ∧ yL_update.cls ≠ "java/lang/invoke/VarHandle" ∧ (parseMethodDescriptor yL_update.desc).map (fun d => d.parameters.length) = some 3 := by decide +kernel
set_option maxHeartbeats 4000000 in
set_option maxRecDepth 100000 in
theorem m_L_update (l : Launch) (hl2 : l.stackTraces = false) (G : zt_G) {σ : zt_St} {x1 : Int32} {r : Int32} {σ1 : zt_St} {sz : Nat} (hf : f_L_update σ x1 = some (r, σ1)) : zt_MU l G yL_update wsL_update 8 138 1 6 [.ref (zt_ad G 0), .int x1, .ref (zt_ad G 122)] sz σ r σ1 := by
  refine vx_ofWH (cc := cL_update) (maxL := 4) (ret := (some .int)) (hh := [(0, 16, 19, 32)]) (by decide) rfl ?_
  intro p e s m args below meth c s₁ B hml hv
  have htab : c.exceptionTable.toList = tableOf [(0, 16, 19, 32)] := vx_table (x := yL_update) B (atoms_spec (ws := wsL_update) B.pre _ List.mem_cons_self)
  obtain ⟨rfl, rfl, hBB, hX⟩ := hv
  have hE := zt_B.env hBB; have hK := hE.2.1; have hP := hBB.2.1
  have hx := B.exec; have hb := B.bytes; have hr := B.returns; have hts := atoms_spec (ws := wsL_update) B.pre
  have hown : s.vm.findClass RL = some m.cls := findClass_of_methodNamed B.named
  have hlocks := B.notSynchronized
  have hS : va_S (zt_A2 G s.heap.size) s.heap s.heap [] := va_S.rf
  have hl := lv_entry ([.ref (zt_ad G 0), .int x1, .ref (zt_ad G 122)]) (n := 4) (Nat.le_of_ble_eq_true rfl)
  rw [lg_entry_eq]
  generalize (lg_sl ([.ref (zt_ad G 0), .int x1, .ref (zt_ad G 122)]) ++ List.replicate (4 - (lg_sl ([.ref (zt_ad G 0), .int x1, .ref (zt_ad G 122)])).length) Slot.unset).toArray = ls at hl ⊢
  have hl : lv_has ls 4 [(0, .ref (zt_ad G 0)), (1, .int x1), (2, .ref (zt_ad G 122))] := hl
  show W p l e (zt_RX 8 138 1 6) s m ([.ref (zt_ad G 0), .int x1, .ref (zt_ad G 122)] : List Value).toArray below meth c s.heap [] 0 0 (vx_MQ below (zt_Ui G r σ1 s.heap.size) (zt_UX G s.heap.size) ([.ref (zt_ad G 0), .int x1, .ref (zt_ad G 122)] : List Value).toArray s 1 6 (zt_A2 G s.heap.size)) (F0 m 0 ls [])
  have B15 : ∀ (σ : zt_St) (y0 : Int32) (H : Heap) (locs : List Loc) (ls : Array Slot), f_L_update_15 σ y0 = some (r, σ1) → va_P (zt_D G) vwCl (zt_ww G σ) H → va_S (zt_A2 G s.heap.size) s.heap H locs → lv_has ls 4 [] → W p l e (zt_RX 8 138 1 6) s m ([.ref (zt_ad G 0), .int x1, .ref (zt_ad G 122)] : List Value).toArray below meth c H locs 1 6 (vx_MQ below (zt_Ui G r σ1 s.heap.size) (zt_UX G s.heap.size) ([.ref (zt_ad G 0), .int x1, .ref (zt_ad G 122)] : List Value).toArray s 1 6 (zt_A2 G s.heap.size)) (F0 m 15 ls [.long (y0 : Int32).toInt64, .int 0, .ref (zt_ad G 122)]) := by
    intro σ y0 H locs ls hf hP hS hl
    unfold f_L_update_15 at hf
    obtain ⟨σ4, hσ4, hf⟩ := zt_lt_some hf
    refine va_last hx hb hK hP (zt_apart2 hE.1) hS 122 3 (zt_a12 (k := 122) rfl) rfl (zt_gI_in (show zt_gI 0 1 = true by decide +kernel)) dL_update_15 (fun H locs hP _ hS => ?_)
    rw [show ((0 : Int32).toNatClampNeg) = 0 from by decide, zt_p12 (k := 122) rfl, ← hσ4] at hP
    refine lv_goto (tgt := 22) hx hb dL_update_16 (by decide) ?_
    refine lv_iconst (v := 0) hx hb dL_update_22 (by decide) ?_
    refine vx_ret ?_; refine W.widen (k := 1) (n := 6) (Nat.le_of_ble_eq_true rfl) (Nat.le_of_ble_eq_true rfl) ?_
    exact W.iret hx hb hr (fun t ht hW => ⟨⟨_, _, rfl, (Prod.mk.inj (Option.some.inj hf)), zt_go hE hP hS zt_id2 ht hW⟩, hS.F ht⟩) hS.2.2 dL_update_23
  unfold f_L_update at hf
  refine lv_aload_n hx hb dL_update_0 rfl (lv_at hl 2 rfl) ?_
  refine lv_iconst (v := 0) hx hb dL_update_1 (by decide) ?_
  refine lv_aload_n hx hb dL_update_2 rfl (lv_at hl 0 rfl) ?_
  refine lv_iload_n hx hb dL_update_3 rfl (lv_at hl 1 rfl) ?_
  obtain ⟨e1, v1, σ2, hvv1, hzv1⟩ := zt_bl_some hf
  refine vx_calli (vx_runV (As := [.int x1]) (rest := [.int 0, .ref (zt_ad G 122)]) ⟨hx, hb, hml, hown, hts⟩ (m_X8_update l hl2 G (σ := σ) hvv1) (cwV 1 hts gL_update_X8_update rfl rfl rfl zh_X8_update ⟨Nat.le_of_ble_eq_true rfl, Nat.le_of_ble_eq_true rfl⟩) ⟨zt_blind2, va_recv hK hP (ci := 7) (q0 := 0) rfl (zt_a7 (rfl : zt_kd 0 = 7)), fun U hU hW => ⟨rfl, zt_go2 hE hX hP hS hU hW⟩⟩ rfl rfl hl.1 rfl (lv_room (Nat.le_of_ble_eq_true rfl)) dL_update_4 ⟨Nat.le_of_ble_eq_true rfl, Nat.le_of_ble_eq_true rfl⟩) hS (zt_dn hS) (zt_up hS) (zt_dn hS) (fun E ce q9 u t H locs ht hvm hw hB _ _ hS hce hcv hcl => ?_) (fun r u t H locs ht hvm hw hB _ _ hS => ?_)
  · rcases hzv1 with ⟨h0, -⟩ | ⟨-, hf⟩
    · exact absurd h0 (zt_exc_ne hB.1)
    have hP := hB.2; rw [hw, ht] at hP
    rcases hB.1 with ⟨he, hEE⟩ | ⟨he, hEE⟩ | ⟨he, hEE⟩
    · exfalso
      have hf := (if_neg (show ¬ e1 = 3 by rw [he]; decide)).symm.trans hf
      exact nomatch hf
    · exfalso
      have hf := (if_neg (show ¬ e1 = 3 by rw [he]; decide)).symm.trans hf
      exact nomatch hf
    · subst hEE
      have hf := (if_pos he).symm.trans hf
      refine vx_catch (name := "java/lang/IndexOutOfBoundsException") hown [] ⟨0, 16, 19, 32⟩ [] (by rw [htab]; rfl) (fun z hz => absurd hz List.not_mem_nil) (by decide) (by decide) (hts (.classLink RL 32 "java/lang/IndexOutOfBoundsException") (List.mem_cons_of_mem _ (List.mem_append_left _ (List.mem_append_left _ (List.mem_append_left _ (List.mem_append_left _ (List.mem_append_left _ (List.mem_append_left _ (List.mem_append_left _ (List.mem_of_getElem? (i := 0) rfl)))))))))) (va_Nw.use rfl (hX.2.2.2.2.1 ("java/lang/IndexOutOfBoundsException", "java/lang/IndexOutOfBoundsException") (List.mem_of_getElem? (i := 2) rfl))) hce hcv hcl ?_
      refine lv_astore_n (lv' := [(3, .ref q9), (0, .ref (zt_ad G 0)), (1, .int x1), (2, .ref (zt_ad G 122))]) hx hb dL_update_19 rfl hl (by decide) rfl (fun ls hl => ?_)
      refine lv_iconst (v := 1) hx hb dL_update_20 (by decide) ?_
      refine vx_ret ?_; refine W.widen (k := 1) (n := 6) (Nat.le_of_ble_eq_true rfl) (Nat.le_of_ble_eq_true rfl) ?_
      exact W.iret hx hb hr (fun t ht hW => ⟨⟨_, _, rfl, (Prod.mk.inj (Option.some.inj hf)), zt_go hE hP hS zt_id2 ht hW⟩, hS.F ht⟩) hS.2.2 dL_update_21
  rcases hzv1 with ⟨-, hf⟩ | ⟨h0, -⟩
  rotate_left
  · exact absurd hw.1 h0
  rw [hw.2.1]; have hB : zt_B G u t := hB; rw [hw.2.2] at hB; have hP := zt_B.P hB ht
  refine W.cs (cells' := 1) (slots' := 6) rfl rfl ?_
  refine lv_if_eq (tgt := 14) hx hb dL_update_7 (by decide) (fun c3 => ?_) (fun c3 => ?_)
  · have hf := (if_pos c3).symm.trans hf
    refine lv_lconst (v := (0 : Int32).toInt64) hx hb dL_update_14 (by decide +kernel) ?_
    exact B15 σ2 0 _ _ _ hf hP hS (lv_sub hl [] rfl)
  · have hf := (if_neg c3).symm.trans hf
    refine lv_lconst (v := (1 : Int32).toInt64) hx hb dL_update_10 (by decide +kernel) ?_
    refine lv_goto (tgt := 15) hx hb dL_update_11 (by decide) ?_
    exact B15 σ2 1 _ _ _ hf hP hS (lv_sub hl [] rfl)

theorem zh_L_zoneHas : yL_zoneHas.cls ≠ "java/lang/invoke/MethodHandle" ∧ yL_zoneHas.cls ≠ "java/lang/invoke/VarHandle" ∧ (parseMethodDescriptor yL_zoneHas.desc).map (fun d => d.parameters.length) = some 4 := by decide +kernel
set_option maxHeartbeats 4000000 in
set_option maxRecDepth 100000 in
theorem m_L_zoneHas (l : Launch) (hl2 : l.stackTraces = false) (G : zt_G) {σ : zt_St} {x1 : Int32} {x2 : Int32} {r : Int32} {σ1 : zt_St} {sz : Nat} (hf : f_L_zoneHas σ x1 x2 = some (r, σ1)) : zt_MU l G yL_zoneHas wsL_zoneHas 8 138 2 12 [.ref (zt_ad G 0), .int x1, .int x2, .ref (zt_ad G 122)] sz σ r σ1 := by
  refine vx_ofWH (cc := cL_zoneHas) (maxL := 5) (ret := (some .int)) (hh := [(0, 10, 13, 32), (0, 10, 17, 13)]) (by decide) rfl ?_
  intro p e s m args below meth c s₁ B hml hv
  have htab : c.exceptionTable.toList = tableOf [(0, 10, 13, 32), (0, 10, 17, 13)] := vx_table (x := yL_zoneHas) B (atoms_spec (ws := wsL_zoneHas) B.pre _ List.mem_cons_self)
  obtain ⟨rfl, rfl, hBB, hX⟩ := hv
  have hE := zt_B.env hBB; have hK := hE.2.1; have hP := hBB.2.1
  have hx := B.exec; have hb := B.bytes; have hr := B.returns; have hts := atoms_spec (ws := wsL_zoneHas) B.pre
  have hown : s.vm.findClass RL = some m.cls := findClass_of_methodNamed B.named
  have hlocks := B.notSynchronized
  have hS : va_S (zt_A2 G s.heap.size) s.heap s.heap [] := va_S.rf
  have hl := lv_entry ([.ref (zt_ad G 0), .int x1, .int x2, .ref (zt_ad G 122)]) (n := 5) (Nat.le_of_ble_eq_true rfl)
  rw [lg_entry_eq]
  generalize (lg_sl ([.ref (zt_ad G 0), .int x1, .int x2, .ref (zt_ad G 122)]) ++ List.replicate (5 - (lg_sl ([.ref (zt_ad G 0), .int x1, .int x2, .ref (zt_ad G 122)])).length) Slot.unset).toArray = ls at hl ⊢
  have hl : lv_has ls 5 [(0, .ref (zt_ad G 0)), (1, .int x1), (2, .int x2), (3, .ref (zt_ad G 122))] := hl
  show W p l e (zt_RX 8 138 2 12) s m ([.ref (zt_ad G 0), .int x1, .int x2, .ref (zt_ad G 122)] : List Value).toArray below meth c s.heap [] 0 0 (vx_MQ below (zt_Ui G r σ1 s.heap.size) (zt_UX G s.heap.size) ([.ref (zt_ad G 0), .int x1, .int x2, .ref (zt_ad G 122)] : List Value).toArray s 2 12 (zt_A2 G s.heap.size)) (F0 m 0 ls [])
  unfold f_L_zoneHas at hf
  refine lv_aload_n hx hb dL_zoneHas_0 rfl (lv_at hl 3 rfl) ?_
  refine lv_iconst (v := 0) hx hb dL_zoneHas_1 (by decide) ?_
  refine lv_aload_n hx hb dL_zoneHas_2 rfl (lv_at hl 0 rfl) ?_
  refine lv_iload_n hx hb dL_zoneHas_3 rfl (lv_at hl 1 rfl) ?_
  refine lv_iload_n hx hb dL_zoneHas_4 rfl (lv_at hl 2 rfl) ?_
  obtain ⟨e1, v1, σ2, hvv1, hzv1⟩ := zt_bl_some hf
  refine vx_calli (vx_runV (As := [.int x1, .int x2]) (rest := [.int 0, .ref (zt_ad G 122)]) ⟨hx, hb, hml, hown, hts⟩ (m_X8_zoneHas l hl2 G (σ := σ) hvv1) (cwV 2 hts gL_zoneHas_X8_zoneHas rfl rfl rfl zh_X8_zoneHas ⟨Nat.le_of_ble_eq_true rfl, Nat.le_of_ble_eq_true rfl⟩) ⟨zt_blind2, va_recv hK hP (ci := 7) (q0 := 0) rfl (zt_a7 (rfl : zt_kd 0 = 7)), fun U hU hW => ⟨rfl, zt_go2 hE hX hP hS hU hW⟩⟩ rfl rfl hl.1 rfl (lv_room (Nat.le_of_ble_eq_true rfl)) dL_zoneHas_5 ⟨Nat.le_of_ble_eq_true rfl, Nat.le_of_ble_eq_true rfl⟩) hS (zt_dn hS) (zt_up hS) (zt_dn hS) (fun E ce q9 u t H locs ht hvm hw hB _ _ hS hce hcv hcl => ?_) (fun r u t H locs ht hvm hw hB _ _ hS => ?_)
  · rcases hzv1 with ⟨h0, -⟩ | ⟨-, hf⟩
    · exact absurd h0 (zt_exc_ne hB.1)
    have hP := hB.2; rw [hw, ht] at hP
    rcases hB.1 with ⟨he, hEE⟩ | ⟨he, hEE⟩ | ⟨he, hEE⟩
    · subst hEE
      have hf := (if_neg (show ¬ e1 = 3 by rw [he]; decide)).symm.trans hf
      have hf := (if_pos he).symm.trans hf
      refine vx_catch (name := "java/lang/IllegalArgumentException") hown [⟨0, 10, 13, 32⟩] ⟨0, 10, 17, 13⟩ [] (by rw [htab]; rfl) (fun z hz => by
                      rcases List.mem_cons.mp hz with rfl | hz
                      · exact Or.inr ⟨by decide, _, hts (.classLink RL 32 "java/lang/IndexOutOfBoundsException") (List.mem_cons_of_mem _ (List.mem_append_left _ (List.mem_append_left _ (List.mem_append_left _ (List.mem_append_left _ (List.mem_append_left _ (List.mem_append_left _ (List.mem_append_left _ (List.mem_of_getElem? (i := 0) rfl))))))))), hX.2.2.2.2.2 ("java/lang/IllegalArgumentException", "java/lang/IndexOutOfBoundsException") (List.mem_of_getElem? (i := 0) rfl)⟩
                      exact absurd hz List.not_mem_nil) (by decide) (by decide) (hts (.classLink RL 13 "java/lang/IllegalArgumentException") (List.mem_cons_of_mem _ (List.mem_append_left _ (List.mem_append_left _ (List.mem_append_left _ (List.mem_append_left _ (List.mem_append_left _ (List.mem_append_left _ (List.mem_append_left _ (List.mem_of_getElem? (i := 1) rfl)))))))))) (va_Nw.use rfl (hX.2.2.2.2.1 ("java/lang/IllegalArgumentException", "java/lang/IllegalArgumentException") (List.mem_of_getElem? (i := 0) rfl))) hce hcv hcl ?_
      refine lv_astore (lv' := [(4, .ref q9), (0, .ref (zt_ad G 0)), (1, .int x1), (2, .int x2), (3, .ref (zt_ad G 122))]) hx hb dL_zoneHas_17 hl (by decide) rfl (fun ls hl => ?_)
      refine lv_iconst (v := 2) hx hb dL_zoneHas_19 (by decide) ?_
      refine vx_ret ?_; refine W.widen (k := 2) (n := 12) (Nat.le_of_ble_eq_true rfl) (Nat.le_of_ble_eq_true rfl) ?_
      exact W.iret hx hb hr (fun t ht hW => ⟨⟨_, _, rfl, (Prod.mk.inj (Option.some.inj hf)), zt_go hE hP hS zt_id2 ht hW⟩, hS.F ht⟩) hS.2.2 dL_zoneHas_20
    · exfalso
      have hf := (if_neg (show ¬ e1 = 3 by rw [he]; decide)).symm.trans hf
      have hf := (if_neg (show ¬ e1 = 1 by rw [he]; decide)).symm.trans hf
      exact nomatch hf
    · subst hEE
      have hf := (if_pos he).symm.trans hf
      refine vx_catch (name := "java/lang/IndexOutOfBoundsException") hown [] ⟨0, 10, 13, 32⟩ [⟨0, 10, 17, 13⟩] (by rw [htab]; rfl) (fun z hz => absurd hz List.not_mem_nil) (by decide) (by decide) (hts (.classLink RL 32 "java/lang/IndexOutOfBoundsException") (List.mem_cons_of_mem _ (List.mem_append_left _ (List.mem_append_left _ (List.mem_append_left _ (List.mem_append_left _ (List.mem_append_left _ (List.mem_append_left _ (List.mem_append_left _ (List.mem_of_getElem? (i := 0) rfl)))))))))) (va_Nw.use rfl (hX.2.2.2.2.1 ("java/lang/IndexOutOfBoundsException", "java/lang/IndexOutOfBoundsException") (List.mem_of_getElem? (i := 2) rfl))) hce hcv hcl ?_
      refine lv_astore (lv' := [(4, .ref q9), (0, .ref (zt_ad G 0)), (1, .int x1), (2, .int x2), (3, .ref (zt_ad G 122))]) hx hb dL_zoneHas_13 hl (by decide) rfl (fun ls hl => ?_)
      refine lv_iconst (v := 1) hx hb dL_zoneHas_15 (by decide) ?_
      refine vx_ret ?_; refine W.widen (k := 2) (n := 12) (Nat.le_of_ble_eq_true rfl) (Nat.le_of_ble_eq_true rfl) ?_
      exact W.iret hx hb hr (fun t ht hW => ⟨⟨_, _, rfl, (Prod.mk.inj (Option.some.inj hf)), zt_go hE hP hS zt_id2 ht hW⟩, hS.F ht⟩) hS.2.2 dL_zoneHas_16
  rcases hzv1 with ⟨-, hf⟩ | ⟨h0, -⟩
  rotate_left
  · exact absurd hw.1 h0
  rw [hw.2.1]; have hB : zt_B G u t := hB; rw [hw.2.2] at hB; have hP := zt_B.P hB ht
  refine W.cs (cells' := 2) (slots' := 12) rfl rfl ?_
  refine lv_i2l (v := (v1 : Int32).toInt64) hx hb dL_zoneHas_8 rfl ?_
  obtain ⟨σ3, hσ3, hf⟩ := zt_lt_some hf
  refine va_last hx hb hK hP (zt_apart2 hE.1) hS 122 3 (zt_a12 (k := 122) rfl) rfl (zt_gI_in (show zt_gI 0 1 = true by decide +kernel)) dL_zoneHas_9 (fun H locs hP _ hS => ?_)
  rw [show ((0 : Int32).toNatClampNeg) = 0 from by decide, zt_p12 (k := 122) rfl, ← hσ3] at hP
  refine lv_goto (tgt := 21) hx hb dL_zoneHas_10 (by decide) ?_
  refine lv_iconst (v := 0) hx hb dL_zoneHas_21 (by decide) ?_
  refine vx_ret ?_; refine W.widen (k := 2) (n := 12) (Nat.le_of_ble_eq_true rfl) (Nat.le_of_ble_eq_true rfl) ?_
  exact W.iret hx hb hr (fun t ht hW => ⟨⟨_, _, rfl, (Prod.mk.inj (Option.some.inj hf)), zt_go hE hP hS zt_id2 ht hW⟩, hS.F ht⟩) hS.2.2 dL_zoneHas_22

theorem zh_L_record : yL_record.cls ≠ "java/lang/invoke/MethodHandle" ∧ yL_record.cls ≠ "java/lang/invoke/VarHandle" ∧ (parseMethodDescriptor yL_record.desc).map (fun d => d.parameters.length) = some 5 := by decide +kernel
set_option maxHeartbeats 4000000 in
set_option maxRecDepth 100000 in
theorem m_L_record (l : Launch) (hl2 : l.stackTraces = false) (G : zt_G) {σ : zt_St} {x1 : Int32} {x2 : Int32} {x3 : Int32} {r : Int32} {σ1 : zt_St} {sz : Nat} (hf : f_L_record σ x1 x2 x3 = some (r, σ1)) : zt_MU l G yL_record wsL_record 8 127 2 12 [.ref (zt_ad G 0), .int x1, .int x2, .int x3, .ref (zt_ad G 122)] sz σ r σ1 := by
  refine vx_ofWH (cc := cL_record) (maxL := 6) (ret := (some .int)) (hh := [(0, 12, 15, 32), (0, 12, 19, 13)]) (by decide) rfl ?_
  intro p e s m args below meth c s₁ B hml hv
  have htab : c.exceptionTable.toList = tableOf [(0, 12, 15, 32), (0, 12, 19, 13)] := vx_table (x := yL_record) B (atoms_spec (ws := wsL_record) B.pre _ List.mem_cons_self)
  obtain ⟨rfl, rfl, hBB, hX⟩ := hv
  have hE := zt_B.env hBB; have hK := hE.2.1; have hP := hBB.2.1
  have hx := B.exec; have hb := B.bytes; have hr := B.returns; have hts := atoms_spec (ws := wsL_record) B.pre
  have hown : s.vm.findClass RL = some m.cls := findClass_of_methodNamed B.named
  have hlocks := B.notSynchronized
  have hS : va_S (zt_A2 G s.heap.size) s.heap s.heap [] := va_S.rf
  have hl := lv_entry ([.ref (zt_ad G 0), .int x1, .int x2, .int x3, .ref (zt_ad G 122)]) (n := 6) (Nat.le_of_ble_eq_true rfl)
  rw [lg_entry_eq]
  generalize (lg_sl ([.ref (zt_ad G 0), .int x1, .int x2, .int x3, .ref (zt_ad G 122)]) ++ List.replicate (6 - (lg_sl ([.ref (zt_ad G 0), .int x1, .int x2, .int x3, .ref (zt_ad G 122)])).length) Slot.unset).toArray = ls at hl ⊢
  have hl : lv_has ls 6 [(0, .ref (zt_ad G 0)), (1, .int x1), (2, .int x2), (3, .int x3), (4, .ref (zt_ad G 122))] := hl
  show W p l e (zt_RX 8 127 2 12) s m ([.ref (zt_ad G 0), .int x1, .int x2, .int x3, .ref (zt_ad G 122)] : List Value).toArray below meth c s.heap [] 0 0 (vx_MQ below (zt_Ui G r σ1 s.heap.size) (zt_UX G s.heap.size) ([.ref (zt_ad G 0), .int x1, .int x2, .int x3, .ref (zt_ad G 122)] : List Value).toArray s 2 12 (zt_A2 G s.heap.size)) (F0 m 0 ls [])
  unfold f_L_record at hf
  refine lv_aload hx hb dL_record_0 (lv_at hl 4 rfl) ?_
  refine lv_iconst (v := 0) hx hb dL_record_2 (by decide) ?_
  refine lv_aload_n hx hb dL_record_3 rfl (lv_at hl 0 rfl) ?_
  refine lv_iload_n hx hb dL_record_4 rfl (lv_at hl 1 rfl) ?_
  refine lv_iload_n hx hb dL_record_5 rfl (lv_at hl 2 rfl) ?_
  refine lv_iload_n hx hb dL_record_6 rfl (lv_at hl 3 rfl) ?_
  obtain ⟨e1, v1, σ2, hvv1, hzv1⟩ := zt_bl_some hf
  refine vx_calli (vx_runV (As := [.int x1, .int x2, .int x3]) (rest := [.int 0, .ref (zt_ad G 122)]) ⟨hx, hb, hml, hown, hts⟩ (m_X8_record l hl2 G (σ := σ) hvv1) (cwV 3 hts gL_record_X8_record rfl rfl rfl zh_X8_record ⟨Nat.le_of_ble_eq_true rfl, Nat.le_of_ble_eq_true rfl⟩) ⟨zt_blind2, va_recv hK hP (ci := 7) (q0 := 0) rfl (zt_a7 (rfl : zt_kd 0 = 7)), fun U hU hW => ⟨rfl, zt_go2 hE hX hP hS hU hW⟩⟩ rfl rfl hl.1 rfl (lv_room (Nat.le_of_ble_eq_true rfl)) dL_record_7 ⟨Nat.le_of_ble_eq_true rfl, Nat.le_of_ble_eq_true rfl⟩) hS (zt_dn hS) (zt_up hS) (zt_dn hS) (fun E ce q9 u t H locs ht hvm hw hB _ _ hS hce hcv hcl => ?_) (fun r u t H locs ht hvm hw hB _ _ hS => ?_)
  · rcases hzv1 with ⟨h0, -⟩ | ⟨-, hf⟩
    · exact absurd h0 (zt_exc_ne hB.1)
    have hP := hB.2; rw [hw, ht] at hP
    rcases hB.1 with ⟨he, hEE⟩ | ⟨he, hEE⟩ | ⟨he, hEE⟩
    · subst hEE
      have hf := (if_neg (show ¬ e1 = 3 by rw [he]; decide)).symm.trans hf
      have hf := (if_pos he).symm.trans hf
      refine vx_catch (name := "java/lang/IllegalArgumentException") hown [⟨0, 12, 15, 32⟩] ⟨0, 12, 19, 13⟩ [] (by rw [htab]; rfl) (fun z hz => by
                      rcases List.mem_cons.mp hz with rfl | hz
                      · exact Or.inr ⟨by decide, _, hts (.classLink RL 32 "java/lang/IndexOutOfBoundsException") (List.mem_cons_of_mem _ (List.mem_append_left _ (List.mem_append_left _ (List.mem_append_left _ (List.mem_append_left _ (List.mem_append_left _ (List.mem_append_left _ (List.mem_append_left _ (List.mem_of_getElem? (i := 0) rfl))))))))), hX.2.2.2.2.2 ("java/lang/IllegalArgumentException", "java/lang/IndexOutOfBoundsException") (List.mem_of_getElem? (i := 0) rfl)⟩
                      exact absurd hz List.not_mem_nil) (by decide) (by decide) (hts (.classLink RL 13 "java/lang/IllegalArgumentException") (List.mem_cons_of_mem _ (List.mem_append_left _ (List.mem_append_left _ (List.mem_append_left _ (List.mem_append_left _ (List.mem_append_left _ (List.mem_append_left _ (List.mem_append_left _ (List.mem_of_getElem? (i := 1) rfl)))))))))) (va_Nw.use rfl (hX.2.2.2.2.1 ("java/lang/IllegalArgumentException", "java/lang/IllegalArgumentException") (List.mem_of_getElem? (i := 0) rfl))) hce hcv hcl ?_
      refine lv_astore (lv' := [(5, .ref q9), (0, .ref (zt_ad G 0)), (1, .int x1), (2, .int x2), (3, .int x3), (4, .ref (zt_ad G 122))]) hx hb dL_record_19 hl (by decide) rfl (fun ls hl => ?_)
      refine lv_iconst (v := 2) hx hb dL_record_21 (by decide) ?_
      refine vx_ret ?_; refine W.widen (k := 2) (n := 12) (Nat.le_of_ble_eq_true rfl) (Nat.le_of_ble_eq_true rfl) ?_
      exact W.iret hx hb hr (fun t ht hW => ⟨⟨_, _, rfl, (Prod.mk.inj (Option.some.inj hf)), zt_go hE hP hS zt_id2 ht hW⟩, hS.F ht⟩) hS.2.2 dL_record_22
    · exfalso
      have hf := (if_neg (show ¬ e1 = 3 by rw [he]; decide)).symm.trans hf
      have hf := (if_neg (show ¬ e1 = 1 by rw [he]; decide)).symm.trans hf
      exact nomatch hf
    · subst hEE
      have hf := (if_pos he).symm.trans hf
      refine vx_catch (name := "java/lang/IndexOutOfBoundsException") hown [] ⟨0, 12, 15, 32⟩ [⟨0, 12, 19, 13⟩] (by rw [htab]; rfl) (fun z hz => absurd hz List.not_mem_nil) (by decide) (by decide) (hts (.classLink RL 32 "java/lang/IndexOutOfBoundsException") (List.mem_cons_of_mem _ (List.mem_append_left _ (List.mem_append_left _ (List.mem_append_left _ (List.mem_append_left _ (List.mem_append_left _ (List.mem_append_left _ (List.mem_append_left _ (List.mem_of_getElem? (i := 0) rfl)))))))))) (va_Nw.use rfl (hX.2.2.2.2.1 ("java/lang/IndexOutOfBoundsException", "java/lang/IndexOutOfBoundsException") (List.mem_of_getElem? (i := 2) rfl))) hce hcv hcl ?_
      refine lv_astore (lv' := [(5, .ref q9), (0, .ref (zt_ad G 0)), (1, .int x1), (2, .int x2), (3, .int x3), (4, .ref (zt_ad G 122))]) hx hb dL_record_15 hl (by decide) rfl (fun ls hl => ?_)
      refine lv_iconst (v := 1) hx hb dL_record_17 (by decide) ?_
      refine vx_ret ?_; refine W.widen (k := 2) (n := 12) (Nat.le_of_ble_eq_true rfl) (Nat.le_of_ble_eq_true rfl) ?_
      exact W.iret hx hb hr (fun t ht hW => ⟨⟨_, _, rfl, (Prod.mk.inj (Option.some.inj hf)), zt_go hE hP hS zt_id2 ht hW⟩, hS.F ht⟩) hS.2.2 dL_record_18
  rcases hzv1 with ⟨-, hf⟩ | ⟨h0, -⟩
  rotate_left
  · exact absurd hw.1 h0
  rw [hw.2.1]; have hB : zt_B G u t := hB; rw [hw.2.2] at hB; have hP := zt_B.P hB ht
  refine W.cs (cells' := 2) (slots' := 12) rfl rfl ?_
  refine lv_i2l (v := (v1 : Int32).toInt64) hx hb dL_record_10 rfl ?_
  obtain ⟨σ3, hσ3, hf⟩ := zt_lt_some hf
  refine va_last hx hb hK hP (zt_apart2 hE.1) hS 122 3 (zt_a12 (k := 122) rfl) rfl (zt_gI_in (show zt_gI 0 1 = true by decide +kernel)) dL_record_11 (fun H locs hP _ hS => ?_)
  rw [show ((0 : Int32).toNatClampNeg) = 0 from by decide, zt_p12 (k := 122) rfl, ← hσ3] at hP
  refine lv_goto (tgt := 23) hx hb dL_record_12 (by decide) ?_
  refine lv_iconst (v := 0) hx hb dL_record_23 (by decide) ?_
  refine vx_ret ?_; refine W.widen (k := 2) (n := 12) (Nat.le_of_ble_eq_true rfl) (Nat.le_of_ble_eq_true rfl) ?_
  exact W.iret hx hb hr (fun t ht hW => ⟨⟨_, _, rfl, (Prod.mk.inj (Option.some.inj hf)), zt_go hE hP hS zt_id2 ht hW⟩, hS.F ht⟩) hS.2.2 dL_record_24

theorem zh_L_bringUp : yL_bringUp.cls ≠ "java/lang/invoke/MethodHandle" ∧ yL_bringUp.cls ≠ "java/lang/invoke/VarHandle" ∧ (parseMethodDescriptor yL_bringUp.desc).map (fun d => d.parameters.length) = some 3 := by decide +kernel
set_option maxHeartbeats 4000000 in
set_option maxRecDepth 100000 in
theorem m_L_bringUp (l : Launch) (hl2 : l.stackTraces = false) (G : zt_G) {σ : zt_St} {x1 : Int32} {r : Int32} {σ1 : zt_St} {sz : Nat} (hf : f_L_bringUp σ x1 = some (r, σ1)) : zt_MU l G yL_bringUp wsL_bringUp 8 124 1 6 [.ref (zt_ad G 0), .int x1, .ref (zt_ad G 122)] sz σ r σ1 := by
  refine vx_ofWH (cc := cL_bringUp) (maxL := 4) (ret := (some .int)) (hh := [(0, 9, 12, 32)]) (by decide) rfl ?_
  intro p e s m args below meth c s₁ B hml hv
  have htab : c.exceptionTable.toList = tableOf [(0, 9, 12, 32)] := vx_table (x := yL_bringUp) B (atoms_spec (ws := wsL_bringUp) B.pre _ List.mem_cons_self)
  obtain ⟨rfl, rfl, hBB, hX⟩ := hv
  have hE := zt_B.env hBB; have hK := hE.2.1; have hP := hBB.2.1
  have hx := B.exec; have hb := B.bytes; have hr := B.returns; have hts := atoms_spec (ws := wsL_bringUp) B.pre
  have hown : s.vm.findClass RL = some m.cls := findClass_of_methodNamed B.named
  have hlocks := B.notSynchronized
  have hS : va_S (zt_A2 G s.heap.size) s.heap s.heap [] := va_S.rf
  have hl := lv_entry ([.ref (zt_ad G 0), .int x1, .ref (zt_ad G 122)]) (n := 4) (Nat.le_of_ble_eq_true rfl)
  rw [lg_entry_eq]
  generalize (lg_sl ([.ref (zt_ad G 0), .int x1, .ref (zt_ad G 122)]) ++ List.replicate (4 - (lg_sl ([.ref (zt_ad G 0), .int x1, .ref (zt_ad G 122)])).length) Slot.unset).toArray = ls at hl ⊢
  have hl : lv_has ls 4 [(0, .ref (zt_ad G 0)), (1, .int x1), (2, .ref (zt_ad G 122))] := hl
  show W p l e (zt_RX 8 124 1 6) s m ([.ref (zt_ad G 0), .int x1, .ref (zt_ad G 122)] : List Value).toArray below meth c s.heap [] 0 0 (vx_MQ below (zt_Ui G r σ1 s.heap.size) (zt_UX G s.heap.size) ([.ref (zt_ad G 0), .int x1, .ref (zt_ad G 122)] : List Value).toArray s 1 6 (zt_A2 G s.heap.size)) (F0 m 0 ls [])
  unfold f_L_bringUp at hf
  refine lv_aload_n hx hb dL_bringUp_0 rfl (lv_at hl 2 rfl) ?_
  refine lv_iconst (v := 0) hx hb dL_bringUp_1 (by decide) ?_
  refine lv_aload_n hx hb dL_bringUp_2 rfl (lv_at hl 0 rfl) ?_
  refine lv_iload_n hx hb dL_bringUp_3 rfl (lv_at hl 1 rfl) ?_
  obtain ⟨e1, v1, σ2, hvv1, hzv1⟩ := zt_bl_some hf
  refine vx_calli (vx_runV (As := [.int x1]) (rest := [.int 0, .ref (zt_ad G 122)]) ⟨hx, hb, hml, hown, hts⟩ (m_X8_bringUp l hl2 G (σ := σ) hvv1) (cwV 1 hts gL_bringUp_X8_bringUp rfl rfl rfl zh_X8_bringUp ⟨Nat.le_of_ble_eq_true rfl, Nat.le_of_ble_eq_true rfl⟩) ⟨zt_blind2, va_recv hK hP (ci := 7) (q0 := 0) rfl (zt_a7 (rfl : zt_kd 0 = 7)), fun U hU hW => ⟨rfl, zt_go2 hE hX hP hS hU hW⟩⟩ rfl rfl hl.1 rfl (lv_room (Nat.le_of_ble_eq_true rfl)) dL_bringUp_4 ⟨Nat.le_of_ble_eq_true rfl, Nat.le_of_ble_eq_true rfl⟩) hS (zt_dn hS) (zt_up hS) (zt_dn hS) (fun E ce q9 u t H locs ht hvm hw hB _ _ hS hce hcv hcl => ?_) (fun r u t H locs ht hvm hw hB _ _ hS => ?_)
  · rcases hzv1 with ⟨h0, -⟩ | ⟨-, hf⟩
    · exact absurd h0 (zt_exc_ne hB.1)
    have hP := hB.2; rw [hw, ht] at hP
    rcases hB.1 with ⟨he, hEE⟩ | ⟨he, hEE⟩ | ⟨he, hEE⟩
    · exfalso
      have hf := (if_neg (show ¬ e1 = 3 by rw [he]; decide)).symm.trans hf
      exact nomatch hf
    · exfalso
      have hf := (if_neg (show ¬ e1 = 3 by rw [he]; decide)).symm.trans hf
      exact nomatch hf
    · subst hEE
      have hf := (if_pos he).symm.trans hf
      refine vx_catch (name := "java/lang/IndexOutOfBoundsException") hown [] ⟨0, 9, 12, 32⟩ [] (by rw [htab]; rfl) (fun z hz => absurd hz List.not_mem_nil) (by decide) (by decide) (hts (.classLink RL 32 "java/lang/IndexOutOfBoundsException") (List.mem_cons_of_mem _ (List.mem_append_left _ (List.mem_append_left _ (List.mem_append_left _ (List.mem_append_left _ (List.mem_append_left _ (List.mem_append_left _ (List.mem_of_getElem? (i := 0) rfl))))))))) (va_Nw.use rfl (hX.2.2.2.2.1 ("java/lang/IndexOutOfBoundsException", "java/lang/IndexOutOfBoundsException") (List.mem_of_getElem? (i := 2) rfl))) hce hcv hcl ?_
      refine lv_astore_n (lv' := [(3, .ref q9), (0, .ref (zt_ad G 0)), (1, .int x1), (2, .ref (zt_ad G 122))]) hx hb dL_bringUp_12 rfl hl (by decide) rfl (fun ls hl => ?_)
      refine lv_iconst (v := 1) hx hb dL_bringUp_13 (by decide) ?_
      refine vx_ret ?_; refine W.widen (k := 1) (n := 6) (Nat.le_of_ble_eq_true rfl) (Nat.le_of_ble_eq_true rfl) ?_
      exact W.iret hx hb hr (fun t ht hW => ⟨⟨_, _, rfl, (Prod.mk.inj (Option.some.inj hf)), zt_go hE hP hS zt_id2 ht hW⟩, hS.F ht⟩) hS.2.2 dL_bringUp_14
  rcases hzv1 with ⟨-, hf⟩ | ⟨h0, -⟩
  rotate_left
  · exact absurd hw.1 h0
  rw [hw.2.1]; have hB : zt_B G u t := hB; rw [hw.2.2] at hB; have hP := zt_B.P hB ht
  refine W.cs (cells' := 1) (slots' := 6) rfl rfl ?_
  refine lv_i2l (v := (v1 : Int32).toInt64) hx hb dL_bringUp_7 rfl ?_
  obtain ⟨σ3, hσ3, hf⟩ := zt_lt_some hf
  refine va_last hx hb hK hP (zt_apart2 hE.1) hS 122 3 (zt_a12 (k := 122) rfl) rfl (zt_gI_in (show zt_gI 0 1 = true by decide +kernel)) dL_bringUp_8 (fun H locs hP _ hS => ?_)
  rw [show ((0 : Int32).toNatClampNeg) = 0 from by decide, zt_p12 (k := 122) rfl, ← hσ3] at hP
  refine lv_goto (tgt := 15) hx hb dL_bringUp_9 (by decide) ?_
  refine lv_iconst (v := 0) hx hb dL_bringUp_15 (by decide) ?_
  refine vx_ret ?_; refine W.widen (k := 1) (n := 6) (Nat.le_of_ble_eq_true rfl) (Nat.le_of_ble_eq_true rfl) ?_
  exact W.iret hx hb hr (fun t ht hW => ⟨⟨_, _, rfl, (Prod.mk.inj (Option.some.inj hf)), zt_go hE hP hS zt_id2 ht hW⟩, hS.F ht⟩) hS.2.2 dL_bringUp_16

theorem zh_L_setDead : yL_setDead.cls ≠ "java/lang/invoke/MethodHandle" ∧ yL_setDead.cls ≠ "java/lang/invoke/VarHandle" ∧ (parseMethodDescriptor yL_setDead.desc).map (fun d => d.parameters.length) = some 3 := by decide +kernel
set_option maxHeartbeats 4000000 in
set_option maxRecDepth 100000 in
theorem m_L_setDead (l : Launch) (hl2 : l.stackTraces = false) (G : zt_G) {σ : zt_St} {x1 : Int32} {x2 : Int32} {r : Int32} {σ1 : zt_St} {sz : Nat} (hf : f_L_setDead σ x1 x2 = some (r, σ1)) : zt_MU l G yL_setDead wsL_setDead 8 125 1 6 [.ref (zt_ad G 0), .int x1, .int x2] sz σ r σ1 := by
  refine vx_ofWH (cc := cL_setDead) (maxL := 4) (ret := (some .int)) (hh := [(0, 6, 9, 32)]) (by decide) rfl ?_
  intro p e s m args below meth c s₁ B hml hv
  have htab : c.exceptionTable.toList = tableOf [(0, 6, 9, 32)] := vx_table (x := yL_setDead) B (atoms_spec (ws := wsL_setDead) B.pre _ List.mem_cons_self)
  obtain ⟨rfl, rfl, hBB, hX⟩ := hv
  have hE := zt_B.env hBB; have hK := hE.2.1; have hP := hBB.2.1
  have hx := B.exec; have hb := B.bytes; have hr := B.returns; have hts := atoms_spec (ws := wsL_setDead) B.pre
  have hown : s.vm.findClass RL = some m.cls := findClass_of_methodNamed B.named
  have hlocks := B.notSynchronized
  have hS : va_S (zt_A2 G s.heap.size) s.heap s.heap [] := va_S.rf
  have hl := lv_entry ([.ref (zt_ad G 0), .int x1, .int x2]) (n := 4) (Nat.le_of_ble_eq_true rfl)
  rw [lg_entry_eq]
  generalize (lg_sl ([.ref (zt_ad G 0), .int x1, .int x2]) ++ List.replicate (4 - (lg_sl ([.ref (zt_ad G 0), .int x1, .int x2])).length) Slot.unset).toArray = ls at hl ⊢
  have hl : lv_has ls 4 [(0, .ref (zt_ad G 0)), (1, .int x1), (2, .int x2)] := hl
  show W p l e (zt_RX 8 125 1 6) s m ([.ref (zt_ad G 0), .int x1, .int x2] : List Value).toArray below meth c s.heap [] 0 0 (vx_MQ below (zt_Ui G r σ1 s.heap.size) (zt_UX G s.heap.size) ([.ref (zt_ad G 0), .int x1, .int x2] : List Value).toArray s 1 6 (zt_A2 G s.heap.size)) (F0 m 0 ls [])
  unfold f_L_setDead at hf
  refine lv_aload_n hx hb dL_setDead_0 rfl (lv_at hl 0 rfl) ?_
  refine lv_iload_n hx hb dL_setDead_1 rfl (lv_at hl 1 rfl) ?_
  refine lv_iload_n hx hb dL_setDead_2 rfl (lv_at hl 2 rfl) ?_
  obtain ⟨e1, v1, σ2, hvv1, hzv1⟩ := zt_bl_some hf
  refine vx_callv (vx_runV (As := [.int x1, .int x2]) (rest := []) ⟨hx, hb, hml, hown, hts⟩ (m_X8_setDead l hl2 G (σ := σ) hvv1) (cwV 2 hts gL_setDead_X8_setDead rfl rfl rfl zh_X8_setDead ⟨Nat.le_of_ble_eq_true rfl, Nat.le_of_ble_eq_true rfl⟩) ⟨zt_blind2, va_recv hK hP (ci := 7) (q0 := 0) rfl (zt_a7 (rfl : zt_kd 0 = 7)), fun U hU hW => ⟨rfl, zt_go2 hE hX hP hS hU hW⟩⟩ rfl rfl hl.1 rfl (lv_room (Nat.le_of_ble_eq_true rfl)) dL_setDead_3 ⟨Nat.le_of_ble_eq_true rfl, Nat.le_of_ble_eq_true rfl⟩) hS (zt_dn hS) (zt_up hS) (zt_dn hS) (fun E ce q9 u t H locs ht hvm hw hB _ _ hS hce hcv hcl => ?_) (fun u t H locs ht hvm hw hB _ _ hS => ?_)
  · rcases hzv1 with ⟨h0, -⟩ | ⟨-, hf⟩
    · exact absurd h0 (zt_exc_ne hB.1)
    have hP := hB.2; rw [hw, ht] at hP
    rcases hB.1 with ⟨he, hEE⟩ | ⟨he, hEE⟩ | ⟨he, hEE⟩
    · exfalso
      have hf := (if_neg (show ¬ e1 = 3 by rw [he]; decide)).symm.trans hf
      exact nomatch hf
    · exfalso
      have hf := (if_neg (show ¬ e1 = 3 by rw [he]; decide)).symm.trans hf
      exact nomatch hf
    · subst hEE
      have hf := (if_pos he).symm.trans hf
      refine vx_catch (name := "java/lang/IndexOutOfBoundsException") hown [] ⟨0, 6, 9, 32⟩ [] (by rw [htab]; rfl) (fun z hz => absurd hz List.not_mem_nil) (by decide) (by decide) (hts (.classLink RL 32 "java/lang/IndexOutOfBoundsException") (List.mem_cons_of_mem _ (List.mem_append_left _ (List.mem_append_left _ (List.mem_append_left _ (List.mem_append_left _ (List.mem_of_getElem? (i := 0) rfl))))))) (va_Nw.use rfl (hX.2.2.2.2.1 ("java/lang/IndexOutOfBoundsException", "java/lang/IndexOutOfBoundsException") (List.mem_of_getElem? (i := 2) rfl))) hce hcv hcl ?_
      refine lv_astore_n (lv' := [(3, .ref q9), (0, .ref (zt_ad G 0)), (1, .int x1), (2, .int x2)]) hx hb dL_setDead_9 rfl hl (by decide) rfl (fun ls hl => ?_)
      refine lv_iconst (v := 1) hx hb dL_setDead_10 (by decide) ?_
      refine vx_ret ?_; refine W.widen (k := 1) (n := 6) (Nat.le_of_ble_eq_true rfl) (Nat.le_of_ble_eq_true rfl) ?_
      exact W.iret hx hb hr (fun t ht hW => ⟨⟨_, _, rfl, (Prod.mk.inj (Option.some.inj hf)), zt_go hE hP hS zt_id2 ht hW⟩, hS.F ht⟩) hS.2.2 dL_setDead_11
  rcases hzv1 with ⟨-, hf⟩ | ⟨h0, -⟩
  rotate_left
  · exact absurd hw.1 h0
  have hB : zt_B G u t := hB; rw [hw.2.2] at hB; have hP := zt_B.P hB ht
  refine W.cs (cells' := 1) (slots' := 6) rfl rfl ?_
  refine lv_goto (tgt := 12) hx hb dL_setDead_6 (by decide) ?_
  refine lv_iconst (v := 0) hx hb dL_setDead_12 (by decide) ?_
  refine vx_ret ?_; refine W.widen (k := 1) (n := 6) (Nat.le_of_ble_eq_true rfl) (Nat.le_of_ble_eq_true rfl) ?_
  exact W.iret hx hb hr (fun t ht hW => ⟨⟨_, _, rfl, (Prod.mk.inj (Option.some.inj hf)), zt_go hE hP hS zt_id2 ht hW⟩, hS.F ht⟩) hS.2.2 dL_setDead_13

theorem zh_L_ask : yL_ask.cls ≠ "java/lang/invoke/MethodHandle" ∧ yL_ask.cls ≠ "java/lang/invoke/VarHandle" ∧ (parseMethodDescriptor yL_ask.desc).map (fun d => d.parameters.length) = some 5 := by decide +kernel
set_option maxHeartbeats 4000000 in
set_option maxRecDepth 100000 in
theorem m_L_ask (l : Launch) (hl2 : l.stackTraces = false) (G : zt_G) {σ : zt_St} {x1 : Int32} {x2 : Int32} {x3 : Int32} {r : Int32} {σ1 : zt_St} {sz : Nat} (hf : f_L_ask σ x1 x2 x3 = some (r, σ1)) : zt_MU l G yL_ask wsL_ask 8 128 3 18 [.ref (zt_ad G 0), .int x1, .int x2, .int x3, .ref (zt_ad G 122)] sz σ r σ1 := by
  refine vx_ofWH (cc := cL_ask) (maxL := 6) (ret := (some .int)) (hh := [(0, 12, 15, 32), (0, 12, 19, 13), (0, 12, 23, 15)]) (by decide) rfl ?_
  intro p e s m args below meth c s₁ B hml hv
  have htab : c.exceptionTable.toList = tableOf [(0, 12, 15, 32), (0, 12, 19, 13), (0, 12, 23, 15)] := vx_table (x := yL_ask) B (atoms_spec (ws := wsL_ask) B.pre _ List.mem_cons_self)
  obtain ⟨rfl, rfl, hBB, hX⟩ := hv
  have hE := zt_B.env hBB; have hK := hE.2.1; have hP := hBB.2.1
  have hx := B.exec; have hb := B.bytes; have hr := B.returns; have hts := atoms_spec (ws := wsL_ask) B.pre
  have hown : s.vm.findClass RL = some m.cls := findClass_of_methodNamed B.named
  have hlocks := B.notSynchronized
  have hS : va_S (zt_A2 G s.heap.size) s.heap s.heap [] := va_S.rf
  have hl := lv_entry ([.ref (zt_ad G 0), .int x1, .int x2, .int x3, .ref (zt_ad G 122)]) (n := 6) (Nat.le_of_ble_eq_true rfl)
  rw [lg_entry_eq]
  generalize (lg_sl ([.ref (zt_ad G 0), .int x1, .int x2, .int x3, .ref (zt_ad G 122)]) ++ List.replicate (6 - (lg_sl ([.ref (zt_ad G 0), .int x1, .int x2, .int x3, .ref (zt_ad G 122)])).length) Slot.unset).toArray = ls at hl ⊢
  have hl : lv_has ls 6 [(0, .ref (zt_ad G 0)), (1, .int x1), (2, .int x2), (3, .int x3), (4, .ref (zt_ad G 122))] := hl
  show W p l e (zt_RX 8 128 3 18) s m ([.ref (zt_ad G 0), .int x1, .int x2, .int x3, .ref (zt_ad G 122)] : List Value).toArray below meth c s.heap [] 0 0 (vx_MQ below (zt_Ui G r σ1 s.heap.size) (zt_UX G s.heap.size) ([.ref (zt_ad G 0), .int x1, .int x2, .int x3, .ref (zt_ad G 122)] : List Value).toArray s 3 18 (zt_A2 G s.heap.size)) (F0 m 0 ls [])
  unfold f_L_ask at hf
  refine lv_aload hx hb dL_ask_0 (lv_at hl 4 rfl) ?_
  refine lv_iconst (v := 0) hx hb dL_ask_2 (by decide) ?_
  refine lv_aload_n hx hb dL_ask_3 rfl (lv_at hl 0 rfl) ?_
  refine lv_iload_n hx hb dL_ask_4 rfl (lv_at hl 1 rfl) ?_
  refine lv_iload_n hx hb dL_ask_5 rfl (lv_at hl 2 rfl) ?_
  refine lv_iload_n hx hb dL_ask_6 rfl (lv_at hl 3 rfl) ?_
  obtain ⟨e1, v1, σ2, hvv1, hzv1⟩ := zt_bl_some hf
  refine vx_calli (vx_runV (As := [.int x1, .int x2, .int x3]) (rest := [.int 0, .ref (zt_ad G 122)]) ⟨hx, hb, hml, hown, hts⟩ (m_X8_ask l hl2 G (σ := σ) hvv1) (cwV 3 hts gL_ask_X8_ask rfl rfl rfl zh_X8_ask ⟨Nat.le_of_ble_eq_true rfl, Nat.le_of_ble_eq_true rfl⟩) ⟨zt_blind2, va_recv hK hP (ci := 7) (q0 := 0) rfl (zt_a7 (rfl : zt_kd 0 = 7)), fun U hU hW => ⟨rfl, zt_go2 hE hX hP hS hU hW⟩⟩ rfl rfl hl.1 rfl (lv_room (Nat.le_of_ble_eq_true rfl)) dL_ask_7 ⟨Nat.le_of_ble_eq_true rfl, Nat.le_of_ble_eq_true rfl⟩) hS (zt_dn hS) (zt_up hS) (zt_dn hS) (fun E ce q9 u t H locs ht hvm hw hB _ _ hS hce hcv hcl => ?_) (fun r u t H locs ht hvm hw hB _ _ hS => ?_)
  · rcases hzv1 with ⟨h0, -⟩ | ⟨-, hf⟩
    · exact absurd h0 (zt_exc_ne hB.1)
    have hP := hB.2; rw [hw, ht] at hP
    rcases hB.1 with ⟨he, hEE⟩ | ⟨he, hEE⟩ | ⟨he, hEE⟩
    · subst hEE
      have hf := (if_neg (show ¬ e1 = 3 by rw [he]; decide)).symm.trans hf
      have hf := (if_pos he).symm.trans hf
      refine vx_catch (name := "java/lang/IllegalArgumentException") hown [⟨0, 12, 15, 32⟩] ⟨0, 12, 19, 13⟩ [⟨0, 12, 23, 15⟩] (by rw [htab]; rfl) (fun z hz => by
                      rcases List.mem_cons.mp hz with rfl | hz
                      · exact Or.inr ⟨by decide, _, hts (.classLink RL 32 "java/lang/IndexOutOfBoundsException") (List.mem_cons_of_mem _ (List.mem_append_left _ (List.mem_append_left _ (List.mem_append_left _ (List.mem_append_left _ (List.mem_append_left _ (List.mem_append_left _ (List.mem_append_left _ (List.mem_append_left _ (List.mem_append_left _ (List.mem_of_getElem? (i := 0) rfl))))))))))), hX.2.2.2.2.2 ("java/lang/IllegalArgumentException", "java/lang/IndexOutOfBoundsException") (List.mem_of_getElem? (i := 0) rfl)⟩
                      exact absurd hz List.not_mem_nil) (by decide) (by decide) (hts (.classLink RL 13 "java/lang/IllegalArgumentException") (List.mem_cons_of_mem _ (List.mem_append_left _ (List.mem_append_left _ (List.mem_append_left _ (List.mem_append_left _ (List.mem_append_left _ (List.mem_append_left _ (List.mem_append_left _ (List.mem_append_left _ (List.mem_append_left _ (List.mem_of_getElem? (i := 1) rfl)))))))))))) (va_Nw.use rfl (hX.2.2.2.2.1 ("java/lang/IllegalArgumentException", "java/lang/IllegalArgumentException") (List.mem_of_getElem? (i := 0) rfl))) hce hcv hcl ?_
      refine lv_astore (lv' := [(5, .ref q9), (0, .ref (zt_ad G 0)), (1, .int x1), (2, .int x2), (3, .int x3), (4, .ref (zt_ad G 122))]) hx hb dL_ask_19 hl (by decide) rfl (fun ls hl => ?_)
      refine lv_iconst (v := 2) hx hb dL_ask_21 (by decide) ?_
      refine vx_ret ?_; refine W.widen (k := 3) (n := 18) (Nat.le_of_ble_eq_true rfl) (Nat.le_of_ble_eq_true rfl) ?_
      exact W.iret hx hb hr (fun t ht hW => ⟨⟨_, _, rfl, (Prod.mk.inj (Option.some.inj hf)), zt_go hE hP hS zt_id2 ht hW⟩, hS.F ht⟩) hS.2.2 dL_ask_22
    · subst hEE
      have hf := (if_neg (show ¬ e1 = 3 by rw [he]; decide)).symm.trans hf
      have hf := (if_neg (show ¬ e1 = 1 by rw [he]; decide)).symm.trans hf
      have hf := (if_pos he).symm.trans hf
      refine vx_catch (name := "java/lang/IllegalStateException") hown [⟨0, 12, 15, 32⟩, ⟨0, 12, 19, 13⟩] ⟨0, 12, 23, 15⟩ [] (by rw [htab]; rfl) (fun z hz => by
                      rcases List.mem_cons.mp hz with rfl | hz
                      · exact Or.inr ⟨by decide, _, hts (.classLink RL 32 "java/lang/IndexOutOfBoundsException") (List.mem_cons_of_mem _ (List.mem_append_left _ (List.mem_append_left _ (List.mem_append_left _ (List.mem_append_left _ (List.mem_append_left _ (List.mem_append_left _ (List.mem_append_left _ (List.mem_append_left _ (List.mem_append_left _ (List.mem_of_getElem? (i := 0) rfl))))))))))), hX.2.2.2.2.2 ("java/lang/IllegalStateException", "java/lang/IndexOutOfBoundsException") (List.mem_of_getElem? (i := 1) rfl)⟩
                      rcases List.mem_cons.mp hz with rfl | hz
                      · exact Or.inr ⟨by decide, _, hts (.classLink RL 13 "java/lang/IllegalArgumentException") (List.mem_cons_of_mem _ (List.mem_append_left _ (List.mem_append_left _ (List.mem_append_left _ (List.mem_append_left _ (List.mem_append_left _ (List.mem_append_left _ (List.mem_append_left _ (List.mem_append_left _ (List.mem_append_left _ (List.mem_of_getElem? (i := 1) rfl))))))))))), hX.2.2.2.2.2 ("java/lang/IllegalStateException", "java/lang/IllegalArgumentException") (List.mem_of_getElem? (i := 2) rfl)⟩
                      exact absurd hz List.not_mem_nil) (by decide) (by decide) (hts (.classLink RL 15 "java/lang/IllegalStateException") (List.mem_cons_of_mem _ (List.mem_append_left _ (List.mem_append_left _ (List.mem_append_left _ (List.mem_append_left _ (List.mem_append_left _ (List.mem_append_left _ (List.mem_append_left _ (List.mem_append_left _ (List.mem_append_left _ (List.mem_of_getElem? (i := 2) rfl)))))))))))) (va_Nw.use rfl (hX.2.2.2.2.1 ("java/lang/IllegalStateException", "java/lang/IllegalStateException") (List.mem_of_getElem? (i := 1) rfl))) hce hcv hcl ?_
      refine lv_astore (lv' := [(5, .ref q9), (0, .ref (zt_ad G 0)), (1, .int x1), (2, .int x2), (3, .int x3), (4, .ref (zt_ad G 122))]) hx hb dL_ask_23 hl (by decide) rfl (fun ls hl => ?_)
      refine lv_iconst (v := 3) hx hb dL_ask_25 (by decide) ?_
      refine vx_ret ?_; refine W.widen (k := 3) (n := 18) (Nat.le_of_ble_eq_true rfl) (Nat.le_of_ble_eq_true rfl) ?_
      exact W.iret hx hb hr (fun t ht hW => ⟨⟨_, _, rfl, (Prod.mk.inj (Option.some.inj hf)), zt_go hE hP hS zt_id2 ht hW⟩, hS.F ht⟩) hS.2.2 dL_ask_26
    · subst hEE
      have hf := (if_pos he).symm.trans hf
      refine vx_catch (name := "java/lang/IndexOutOfBoundsException") hown [] ⟨0, 12, 15, 32⟩ [⟨0, 12, 19, 13⟩, ⟨0, 12, 23, 15⟩] (by rw [htab]; rfl) (fun z hz => absurd hz List.not_mem_nil) (by decide) (by decide) (hts (.classLink RL 32 "java/lang/IndexOutOfBoundsException") (List.mem_cons_of_mem _ (List.mem_append_left _ (List.mem_append_left _ (List.mem_append_left _ (List.mem_append_left _ (List.mem_append_left _ (List.mem_append_left _ (List.mem_append_left _ (List.mem_append_left _ (List.mem_append_left _ (List.mem_of_getElem? (i := 0) rfl)))))))))))) (va_Nw.use rfl (hX.2.2.2.2.1 ("java/lang/IndexOutOfBoundsException", "java/lang/IndexOutOfBoundsException") (List.mem_of_getElem? (i := 2) rfl))) hce hcv hcl ?_
      refine lv_astore (lv' := [(5, .ref q9), (0, .ref (zt_ad G 0)), (1, .int x1), (2, .int x2), (3, .int x3), (4, .ref (zt_ad G 122))]) hx hb dL_ask_15 hl (by decide) rfl (fun ls hl => ?_)
      refine lv_iconst (v := 1) hx hb dL_ask_17 (by decide) ?_
      refine vx_ret ?_; refine W.widen (k := 3) (n := 18) (Nat.le_of_ble_eq_true rfl) (Nat.le_of_ble_eq_true rfl) ?_
      exact W.iret hx hb hr (fun t ht hW => ⟨⟨_, _, rfl, (Prod.mk.inj (Option.some.inj hf)), zt_go hE hP hS zt_id2 ht hW⟩, hS.F ht⟩) hS.2.2 dL_ask_18
  rcases hzv1 with ⟨-, hf⟩ | ⟨h0, -⟩
  rotate_left
  · exact absurd hw.1 h0
  rw [hw.2.1]; have hB : zt_B G u t := hB; rw [hw.2.2] at hB; have hP := zt_B.P hB ht
  refine W.cs (cells' := 3) (slots' := 18) rfl rfl ?_
  refine lv_i2l (v := (v1 : Int32).toInt64) hx hb dL_ask_10 rfl ?_
  obtain ⟨σ3, hσ3, hf⟩ := zt_lt_some hf
  refine va_last hx hb hK hP (zt_apart2 hE.1) hS 122 3 (zt_a12 (k := 122) rfl) rfl (zt_gI_in (show zt_gI 0 1 = true by decide +kernel)) dL_ask_11 (fun H locs hP _ hS => ?_)
  rw [show ((0 : Int32).toNatClampNeg) = 0 from by decide, zt_p12 (k := 122) rfl, ← hσ3] at hP
  refine lv_goto (tgt := 27) hx hb dL_ask_12 (by decide) ?_
  refine lv_iconst (v := 0) hx hb dL_ask_27 (by decide) ?_
  refine vx_ret ?_; refine W.widen (k := 3) (n := 18) (Nat.le_of_ble_eq_true rfl) (Nat.le_of_ble_eq_true rfl) ?_
  exact W.iret hx hb hr (fun t ht hW => ⟨⟨_, _, rfl, (Prod.mk.inj (Option.some.inj hf)), zt_go hE hP hS zt_id2 ht hW⟩, hS.F ht⟩) hS.2.2 dL_ask_28

theorem zh_L_told : yL_told.cls ≠ "java/lang/invoke/MethodHandle" ∧ yL_told.cls ≠ "java/lang/invoke/VarHandle" ∧ (parseMethodDescriptor yL_told.desc).map (fun d => d.parameters.length) = some 3 := by decide +kernel
set_option maxHeartbeats 4000000 in
set_option maxRecDepth 100000 in
theorem m_L_told (l : Launch) (hl2 : l.stackTraces = false) (G : zt_G) {σ : zt_St} {x1 : Int32} {r : Int32} {σ1 : zt_St} {sz : Nat} (hf : f_L_told σ x1 = some (r, σ1)) : zt_MU l G yL_told wsL_told 7 103 1 6 [.ref (zt_ad G 0), .int x1, .ref (zt_ad G 122)] sz σ r σ1 := by
  refine vx_ofWH (cc := cL_told) (maxL := 4) (ret := (some .int)) (hh := [(0, 9, 12, 13)]) (by decide) rfl ?_
  intro p e s m args below meth c s₁ B hml hv
  have htab : c.exceptionTable.toList = tableOf [(0, 9, 12, 13)] := vx_table (x := yL_told) B (atoms_spec (ws := wsL_told) B.pre _ List.mem_cons_self)
  obtain ⟨rfl, rfl, hBB, hX⟩ := hv
  have hE := zt_B.env hBB; have hK := hE.2.1; have hP := hBB.2.1
  have hx := B.exec; have hb := B.bytes; have hr := B.returns; have hts := atoms_spec (ws := wsL_told) B.pre
  have hown : s.vm.findClass RL = some m.cls := findClass_of_methodNamed B.named
  have hlocks := B.notSynchronized
  have hS : va_S (zt_A2 G s.heap.size) s.heap s.heap [] := va_S.rf
  have hl := lv_entry ([.ref (zt_ad G 0), .int x1, .ref (zt_ad G 122)]) (n := 4) (Nat.le_of_ble_eq_true rfl)
  rw [lg_entry_eq]
  generalize (lg_sl ([.ref (zt_ad G 0), .int x1, .ref (zt_ad G 122)]) ++ List.replicate (4 - (lg_sl ([.ref (zt_ad G 0), .int x1, .ref (zt_ad G 122)])).length) Slot.unset).toArray = ls at hl ⊢
  have hl : lv_has ls 4 [(0, .ref (zt_ad G 0)), (1, .int x1), (2, .ref (zt_ad G 122))] := hl
  show W p l e (zt_RX 7 103 1 6) s m ([.ref (zt_ad G 0), .int x1, .ref (zt_ad G 122)] : List Value).toArray below meth c s.heap [] 0 0 (vx_MQ below (zt_Ui G r σ1 s.heap.size) (zt_UX G s.heap.size) ([.ref (zt_ad G 0), .int x1, .ref (zt_ad G 122)] : List Value).toArray s 1 6 (zt_A2 G s.heap.size)) (F0 m 0 ls [])
  unfold f_L_told at hf
  refine lv_aload_n hx hb dL_told_0 rfl (lv_at hl 2 rfl) ?_
  refine lv_iconst (v := 0) hx hb dL_told_1 (by decide) ?_
  refine lv_aload_n hx hb dL_told_2 rfl (lv_at hl 0 rfl) ?_
  refine lv_iload_n hx hb dL_told_3 rfl (lv_at hl 1 rfl) ?_
  obtain ⟨e1, v1, σ2, hvv1, hzv1⟩ := zt_bl_some hf
  refine vx_calli (vx_runV (As := [.int x1]) (rest := [.int 0, .ref (zt_ad G 122)]) ⟨hx, hb, hml, hown, hts⟩ (m_X8_told l hl2 G (σ := σ) hvv1) (cwV 1 hts gL_told_X8_told rfl rfl rfl zh_X8_told ⟨Nat.le_of_ble_eq_true rfl, Nat.le_of_ble_eq_true rfl⟩) ⟨zt_blind2, va_recv hK hP (ci := 7) (q0 := 0) rfl (zt_a7 (rfl : zt_kd 0 = 7)), fun U hU hW => ⟨rfl, zt_go2 hE hX hP hS hU hW⟩⟩ rfl rfl hl.1 rfl (lv_room (Nat.le_of_ble_eq_true rfl)) dL_told_4 ⟨Nat.le_of_ble_eq_true rfl, Nat.le_of_ble_eq_true rfl⟩) hS (zt_dn hS) (zt_up hS) (zt_dn hS) (fun E ce q9 u t H locs ht hvm hw hB _ _ hS hce hcv hcl => ?_) (fun r u t H locs ht hvm hw hB _ _ hS => ?_)
  · rcases hzv1 with ⟨h0, -⟩ | ⟨-, hf⟩
    · exact absurd h0 (zt_exc_ne hB.1)
    have hP := hB.2; rw [hw, ht] at hP
    rcases hB.1 with ⟨he, hEE⟩ | ⟨he, hEE⟩ | ⟨he, hEE⟩
    · subst hEE
      have hf := (if_pos he).symm.trans hf
      refine vx_catch (name := "java/lang/IllegalArgumentException") hown [] ⟨0, 9, 12, 13⟩ [] (by rw [htab]; rfl) (fun z hz => absurd hz List.not_mem_nil) (by decide) (by decide) (hts (.classLink RL 13 "java/lang/IllegalArgumentException") (List.mem_cons_of_mem _ (List.mem_append_left _ (List.mem_append_left _ (List.mem_append_left _ (List.mem_of_getElem? (i := 0) rfl)))))) (va_Nw.use rfl (hX.2.2.2.2.1 ("java/lang/IllegalArgumentException", "java/lang/IllegalArgumentException") (List.mem_of_getElem? (i := 0) rfl))) hce hcv hcl ?_
      refine lv_astore_n (lv' := [(3, .ref q9), (0, .ref (zt_ad G 0)), (1, .int x1), (2, .ref (zt_ad G 122))]) hx hb dL_told_12 rfl hl (by decide) rfl (fun ls hl => ?_)
      refine lv_iconst (v := 1) hx hb dL_told_13 (by decide) ?_
      refine vx_ret ?_; refine W.widen (k := 1) (n := 6) (Nat.le_of_ble_eq_true rfl) (Nat.le_of_ble_eq_true rfl) ?_
      exact W.iret hx hb hr (fun t ht hW => ⟨⟨_, _, rfl, (Prod.mk.inj (Option.some.inj hf)), zt_go hE hP hS zt_id2 ht hW⟩, hS.F ht⟩) hS.2.2 dL_told_14
    · exfalso
      have hf := (if_neg (show ¬ e1 = 1 by rw [he]; decide)).symm.trans hf
      exact nomatch hf
    · exfalso
      have hf := (if_neg (show ¬ e1 = 1 by rw [he]; decide)).symm.trans hf
      exact nomatch hf
  rcases hzv1 with ⟨-, hf⟩ | ⟨h0, -⟩
  rotate_left
  · exact absurd hw.1 h0
  rw [hw.2.1]; have hB : zt_B G u t := hB; rw [hw.2.2] at hB; have hP := zt_B.P hB ht
  refine W.cs (cells' := 1) (slots' := 6) rfl rfl ?_
  refine lv_i2l (v := (v1 : Int32).toInt64) hx hb dL_told_7 rfl ?_
  obtain ⟨σ3, hσ3, hf⟩ := zt_lt_some hf
  refine va_last hx hb hK hP (zt_apart2 hE.1) hS 122 3 (zt_a12 (k := 122) rfl) rfl (zt_gI_in (show zt_gI 0 1 = true by decide +kernel)) dL_told_8 (fun H locs hP _ hS => ?_)
  rw [show ((0 : Int32).toNatClampNeg) = 0 from by decide, zt_p12 (k := 122) rfl, ← hσ3] at hP
  refine lv_goto (tgt := 15) hx hb dL_told_9 (by decide) ?_
  refine lv_iconst (v := 0) hx hb dL_told_15 (by decide) ?_
  refine vx_ret ?_; refine W.widen (k := 1) (n := 6) (Nat.le_of_ble_eq_true rfl) (Nat.le_of_ble_eq_true rfl) ?_
  exact W.iret hx hb hr (fun t ht hW => ⟨⟨_, _, rfl, (Prod.mk.inj (Option.some.inj hf)), zt_go hE hP hS zt_id2 ht hW⟩, hS.F ht⟩) hS.2.2 dL_told_16

theorem zh_L_neighbour : yL_neighbour.cls ≠ "java/lang/invoke/MethodHandle" ∧ yL_neighbour.cls ≠ "java/lang/invoke/VarHandle" ∧ (parseMethodDescriptor yL_neighbour.desc).map (fun d => d.parameters.length) = some 5 := by decide +kernel
set_option maxHeartbeats 4000000 in
set_option maxRecDepth 100000 in
theorem m_L_neighbour (l : Launch) (hl2 : l.stackTraces = false) (G : zt_G) {σ : zt_St} {x1 : Int32} {x2 : Int32} {x3 : Int32} {r : Int32} {σ1 : zt_St} {sz : Nat} (hf : f_L_neighbour σ x1 x2 x3 = some (r, σ1)) : zt_MU l G yL_neighbour wsL_neighbour 8 146 2 12 [.ref (zt_ad G 0), .int x1, .int x2, .int x3, .ref (zt_ad G 122)] sz σ r σ1 := by
  refine vx_ofWH (cc := cL_neighbour) (maxL := 6) (ret := (some .int)) (hh := [(0, 12, 15, 32), (0, 12, 19, 13)]) (by decide) rfl ?_
  intro p e s m args below meth c s₁ B hml hv
  have htab : c.exceptionTable.toList = tableOf [(0, 12, 15, 32), (0, 12, 19, 13)] := vx_table (x := yL_neighbour) B (atoms_spec (ws := wsL_neighbour) B.pre _ List.mem_cons_self)
  obtain ⟨rfl, rfl, hBB, hX⟩ := hv
  have hE := zt_B.env hBB; have hK := hE.2.1; have hP := hBB.2.1
  have hx := B.exec; have hb := B.bytes; have hr := B.returns; have hts := atoms_spec (ws := wsL_neighbour) B.pre
  have hown : s.vm.findClass RL = some m.cls := findClass_of_methodNamed B.named
  have hlocks := B.notSynchronized
  have hS : va_S (zt_A2 G s.heap.size) s.heap s.heap [] := va_S.rf
  have hl := lv_entry ([.ref (zt_ad G 0), .int x1, .int x2, .int x3, .ref (zt_ad G 122)]) (n := 6) (Nat.le_of_ble_eq_true rfl)
  rw [lg_entry_eq]
  generalize (lg_sl ([.ref (zt_ad G 0), .int x1, .int x2, .int x3, .ref (zt_ad G 122)]) ++ List.replicate (6 - (lg_sl ([.ref (zt_ad G 0), .int x1, .int x2, .int x3, .ref (zt_ad G 122)])).length) Slot.unset).toArray = ls at hl ⊢
  have hl : lv_has ls 6 [(0, .ref (zt_ad G 0)), (1, .int x1), (2, .int x2), (3, .int x3), (4, .ref (zt_ad G 122))] := hl
  show W p l e (zt_RX 8 146 2 12) s m ([.ref (zt_ad G 0), .int x1, .int x2, .int x3, .ref (zt_ad G 122)] : List Value).toArray below meth c s.heap [] 0 0 (vx_MQ below (zt_Ui G r σ1 s.heap.size) (zt_UX G s.heap.size) ([.ref (zt_ad G 0), .int x1, .int x2, .int x3, .ref (zt_ad G 122)] : List Value).toArray s 2 12 (zt_A2 G s.heap.size)) (F0 m 0 ls [])
  unfold f_L_neighbour at hf
  refine lv_aload hx hb dL_neighbour_0 (lv_at hl 4 rfl) ?_
  refine lv_iconst (v := 0) hx hb dL_neighbour_2 (by decide) ?_
  refine lv_aload_n hx hb dL_neighbour_3 rfl (lv_at hl 0 rfl) ?_
  refine lv_iload_n hx hb dL_neighbour_4 rfl (lv_at hl 1 rfl) ?_
  refine lv_iload_n hx hb dL_neighbour_5 rfl (lv_at hl 2 rfl) ?_
  refine lv_iload_n hx hb dL_neighbour_6 rfl (lv_at hl 3 rfl) ?_
  obtain ⟨e1, v1, σ2, hvv1, hzv1⟩ := zt_bl_some hf
  refine vx_calli (vx_runV (As := [.int x1, .int x2, .int x3]) (rest := [.int 0, .ref (zt_ad G 122)]) ⟨hx, hb, hml, hown, hts⟩ (m_X8_neighbour l hl2 G (σ := σ) hvv1) (cwV 3 hts gL_neighbour_X8_neighbour rfl rfl rfl zh_X8_neighbour ⟨Nat.le_of_ble_eq_true rfl, Nat.le_of_ble_eq_true rfl⟩) ⟨zt_blind2, va_recv hK hP (ci := 7) (q0 := 0) rfl (zt_a7 (rfl : zt_kd 0 = 7)), fun U hU hW => ⟨rfl, zt_go2 hE hX hP hS hU hW⟩⟩ rfl rfl hl.1 rfl (lv_room (Nat.le_of_ble_eq_true rfl)) dL_neighbour_7 ⟨Nat.le_of_ble_eq_true rfl, Nat.le_of_ble_eq_true rfl⟩) hS (zt_dn hS) (zt_up hS) (zt_dn hS) (fun E ce q9 u t H locs ht hvm hw hB _ _ hS hce hcv hcl => ?_) (fun r u t H locs ht hvm hw hB _ _ hS => ?_)
  · rcases hzv1 with ⟨h0, -⟩ | ⟨-, hf⟩
    · exact absurd h0 (zt_exc_ne hB.1)
    have hP := hB.2; rw [hw, ht] at hP
    rcases hB.1 with ⟨he, hEE⟩ | ⟨he, hEE⟩ | ⟨he, hEE⟩
    · subst hEE
      have hf := (if_neg (show ¬ e1 = 3 by rw [he]; decide)).symm.trans hf
      have hf := (if_pos he).symm.trans hf
      refine vx_catch (name := "java/lang/IllegalArgumentException") hown [⟨0, 12, 15, 32⟩] ⟨0, 12, 19, 13⟩ [] (by rw [htab]; rfl) (fun z hz => by
                      rcases List.mem_cons.mp hz with rfl | hz
                      · exact Or.inr ⟨by decide, _, hts (.classLink RL 32 "java/lang/IndexOutOfBoundsException") (List.mem_cons_of_mem _ (List.mem_append_left _ (List.mem_append_left _ (List.mem_append_left _ (List.mem_append_left _ (List.mem_append_left _ (List.mem_append_left _ (List.mem_append_left _ (List.mem_of_getElem? (i := 0) rfl))))))))), hX.2.2.2.2.2 ("java/lang/IllegalArgumentException", "java/lang/IndexOutOfBoundsException") (List.mem_of_getElem? (i := 0) rfl)⟩
                      exact absurd hz List.not_mem_nil) (by decide) (by decide) (hts (.classLink RL 13 "java/lang/IllegalArgumentException") (List.mem_cons_of_mem _ (List.mem_append_left _ (List.mem_append_left _ (List.mem_append_left _ (List.mem_append_left _ (List.mem_append_left _ (List.mem_append_left _ (List.mem_append_left _ (List.mem_of_getElem? (i := 1) rfl)))))))))) (va_Nw.use rfl (hX.2.2.2.2.1 ("java/lang/IllegalArgumentException", "java/lang/IllegalArgumentException") (List.mem_of_getElem? (i := 0) rfl))) hce hcv hcl ?_
      refine lv_astore (lv' := [(5, .ref q9), (0, .ref (zt_ad G 0)), (1, .int x1), (2, .int x2), (3, .int x3), (4, .ref (zt_ad G 122))]) hx hb dL_neighbour_19 hl (by decide) rfl (fun ls hl => ?_)
      refine lv_iconst (v := 2) hx hb dL_neighbour_21 (by decide) ?_
      refine vx_ret ?_; refine W.widen (k := 2) (n := 12) (Nat.le_of_ble_eq_true rfl) (Nat.le_of_ble_eq_true rfl) ?_
      exact W.iret hx hb hr (fun t ht hW => ⟨⟨_, _, rfl, (Prod.mk.inj (Option.some.inj hf)), zt_go hE hP hS zt_id2 ht hW⟩, hS.F ht⟩) hS.2.2 dL_neighbour_22
    · exfalso
      have hf := (if_neg (show ¬ e1 = 3 by rw [he]; decide)).symm.trans hf
      have hf := (if_neg (show ¬ e1 = 1 by rw [he]; decide)).symm.trans hf
      exact nomatch hf
    · subst hEE
      have hf := (if_pos he).symm.trans hf
      refine vx_catch (name := "java/lang/IndexOutOfBoundsException") hown [] ⟨0, 12, 15, 32⟩ [⟨0, 12, 19, 13⟩] (by rw [htab]; rfl) (fun z hz => absurd hz List.not_mem_nil) (by decide) (by decide) (hts (.classLink RL 32 "java/lang/IndexOutOfBoundsException") (List.mem_cons_of_mem _ (List.mem_append_left _ (List.mem_append_left _ (List.mem_append_left _ (List.mem_append_left _ (List.mem_append_left _ (List.mem_append_left _ (List.mem_append_left _ (List.mem_of_getElem? (i := 0) rfl)))))))))) (va_Nw.use rfl (hX.2.2.2.2.1 ("java/lang/IndexOutOfBoundsException", "java/lang/IndexOutOfBoundsException") (List.mem_of_getElem? (i := 2) rfl))) hce hcv hcl ?_
      refine lv_astore (lv' := [(5, .ref q9), (0, .ref (zt_ad G 0)), (1, .int x1), (2, .int x2), (3, .int x3), (4, .ref (zt_ad G 122))]) hx hb dL_neighbour_15 hl (by decide) rfl (fun ls hl => ?_)
      refine lv_iconst (v := 1) hx hb dL_neighbour_17 (by decide) ?_
      refine vx_ret ?_; refine W.widen (k := 2) (n := 12) (Nat.le_of_ble_eq_true rfl) (Nat.le_of_ble_eq_true rfl) ?_
      exact W.iret hx hb hr (fun t ht hW => ⟨⟨_, _, rfl, (Prod.mk.inj (Option.some.inj hf)), zt_go hE hP hS zt_id2 ht hW⟩, hS.F ht⟩) hS.2.2 dL_neighbour_18
  rcases hzv1 with ⟨-, hf⟩ | ⟨h0, -⟩
  rotate_left
  · exact absurd hw.1 h0
  rw [hw.2.1]; have hB : zt_B G u t := hB; rw [hw.2.2] at hB; have hP := zt_B.P hB ht
  refine W.cs (cells' := 2) (slots' := 12) rfl rfl ?_
  refine lv_i2l (v := (v1 : Int32).toInt64) hx hb dL_neighbour_10 rfl ?_
  obtain ⟨σ3, hσ3, hf⟩ := zt_lt_some hf
  refine va_last hx hb hK hP (zt_apart2 hE.1) hS 122 3 (zt_a12 (k := 122) rfl) rfl (zt_gI_in (show zt_gI 0 1 = true by decide +kernel)) dL_neighbour_11 (fun H locs hP _ hS => ?_)
  rw [show ((0 : Int32).toNatClampNeg) = 0 from by decide, zt_p12 (k := 122) rfl, ← hσ3] at hP
  refine lv_goto (tgt := 23) hx hb dL_neighbour_12 (by decide) ?_
  refine lv_iconst (v := 0) hx hb dL_neighbour_23 (by decide) ?_
  refine vx_ret ?_; refine W.widen (k := 2) (n := 12) (Nat.le_of_ble_eq_true rfl) (Nat.le_of_ble_eq_true rfl) ?_
  exact W.iret hx hb hr (fun t ht hW => ⟨⟨_, _, rfl, (Prod.mk.inj (Option.some.inj hf)), zt_go hE hP hS zt_id2 ht hW⟩, hS.F ht⟩) hS.2.2 dL_neighbour_24

theorem zh_L_resolve : yL_resolve.cls ≠ "java/lang/invoke/MethodHandle" ∧ yL_resolve.cls ≠ "java/lang/invoke/VarHandle" ∧ (parseMethodDescriptor yL_resolve.desc).map (fun d => d.parameters.length) = some 4 := by decide +kernel
set_option maxHeartbeats 4000000 in
set_option maxRecDepth 100000 in
theorem m_L_resolve (l : Launch) (hl2 : l.stackTraces = false) (G : zt_G) {σ : zt_St} {x1 : Int32} {x2 : Int32} {r : Int32} {σ1 : zt_St} {sz : Nat} (hf : f_L_resolve σ x1 x2 = some (r, σ1)) : zt_MU l G yL_resolve wsL_resolve 8 193 1 6 [.ref (zt_ad G 0), .int x1, .int x2, .ref (zt_ad G 122)] sz σ r σ1 := by
  refine vx_ofWH (cc := cL_resolve) (maxL := 5) (ret := (some .int)) (hh := [(0, 10, 13, 13)]) (by decide) rfl ?_
  intro p e s m args below meth c s₁ B hml hv
  have htab : c.exceptionTable.toList = tableOf [(0, 10, 13, 13)] := vx_table (x := yL_resolve) B (atoms_spec (ws := wsL_resolve) B.pre _ List.mem_cons_self)
  obtain ⟨rfl, rfl, hBB, hX⟩ := hv
  have hE := zt_B.env hBB; have hK := hE.2.1; have hP := hBB.2.1
  have hx := B.exec; have hb := B.bytes; have hr := B.returns; have hts := atoms_spec (ws := wsL_resolve) B.pre
  have hown : s.vm.findClass RL = some m.cls := findClass_of_methodNamed B.named
  have hlocks := B.notSynchronized
  have hS : va_S (zt_A2 G s.heap.size) s.heap s.heap [] := va_S.rf
  have hl := lv_entry ([.ref (zt_ad G 0), .int x1, .int x2, .ref (zt_ad G 122)]) (n := 5) (Nat.le_of_ble_eq_true rfl)
  rw [lg_entry_eq]
  generalize (lg_sl ([.ref (zt_ad G 0), .int x1, .int x2, .ref (zt_ad G 122)]) ++ List.replicate (5 - (lg_sl ([.ref (zt_ad G 0), .int x1, .int x2, .ref (zt_ad G 122)])).length) Slot.unset).toArray = ls at hl ⊢
  have hl : lv_has ls 5 [(0, .ref (zt_ad G 0)), (1, .int x1), (2, .int x2), (3, .ref (zt_ad G 122))] := hl
  show W p l e (zt_RX 8 193 1 6) s m ([.ref (zt_ad G 0), .int x1, .int x2, .ref (zt_ad G 122)] : List Value).toArray below meth c s.heap [] 0 0 (vx_MQ below (zt_Ui G r σ1 s.heap.size) (zt_UX G s.heap.size) ([.ref (zt_ad G 0), .int x1, .int x2, .ref (zt_ad G 122)] : List Value).toArray s 1 6 (zt_A2 G s.heap.size)) (F0 m 0 ls [])
  unfold f_L_resolve at hf
  refine lv_aload_n hx hb dL_resolve_0 rfl (lv_at hl 3 rfl) ?_
  refine lv_iconst (v := 0) hx hb dL_resolve_1 (by decide) ?_
  refine lv_aload_n hx hb dL_resolve_2 rfl (lv_at hl 0 rfl) ?_
  refine lv_iload_n hx hb dL_resolve_3 rfl (lv_at hl 1 rfl) ?_
  refine lv_iload_n hx hb dL_resolve_4 rfl (lv_at hl 2 rfl) ?_
  obtain ⟨e1, v1, σ2, hvv1, hzv1⟩ := zt_bl_some hf
  refine vx_calli (vx_runV (As := [.int x1, .int x2]) (rest := [.int 0, .ref (zt_ad G 122)]) ⟨hx, hb, hml, hown, hts⟩ (m_X8_resolve l hl2 G (σ := σ) hvv1) (cwV 2 hts gL_resolve_X8_resolve rfl rfl rfl zh_X8_resolve ⟨Nat.le_of_ble_eq_true rfl, Nat.le_of_ble_eq_true rfl⟩) ⟨zt_blind2, va_recv hK hP (ci := 7) (q0 := 0) rfl (zt_a7 (rfl : zt_kd 0 = 7)), fun U hU hW => ⟨rfl, zt_go2 hE hX hP hS hU hW⟩⟩ rfl rfl hl.1 rfl (lv_room (Nat.le_of_ble_eq_true rfl)) dL_resolve_5 ⟨Nat.le_of_ble_eq_true rfl, Nat.le_of_ble_eq_true rfl⟩) hS (zt_dn hS) (zt_up hS) (zt_dn hS) (fun E ce q9 u t H locs ht hvm hw hB _ _ hS hce hcv hcl => ?_) (fun r u t H locs ht hvm hw hB _ _ hS => ?_)
  · rcases hzv1 with ⟨h0, -⟩ | ⟨-, hf⟩
    · exact absurd h0 (zt_exc_ne hB.1)
    have hP := hB.2; rw [hw, ht] at hP
    rcases hB.1 with ⟨he, hEE⟩ | ⟨he, hEE⟩ | ⟨he, hEE⟩
    · subst hEE
      have hf := (if_pos he).symm.trans hf
      refine vx_catch (name := "java/lang/IllegalArgumentException") hown [] ⟨0, 10, 13, 13⟩ [] (by rw [htab]; rfl) (fun z hz => absurd hz List.not_mem_nil) (by decide) (by decide) (hts (.classLink RL 13 "java/lang/IllegalArgumentException") (List.mem_cons_of_mem _ (List.mem_append_left _ (List.mem_append_left _ (List.mem_append_left _ (List.mem_append_left _ (List.mem_append_left _ (List.mem_append_left _ (List.mem_append_left _ (List.mem_append_left _ (List.mem_append_left _ (List.mem_of_getElem? (i := 0) rfl)))))))))))) (va_Nw.use rfl (hX.2.2.2.2.1 ("java/lang/IllegalArgumentException", "java/lang/IllegalArgumentException") (List.mem_of_getElem? (i := 0) rfl))) hce hcv hcl ?_
      refine lv_astore (lv' := [(4, .ref q9), (0, .ref (zt_ad G 0)), (1, .int x1), (2, .int x2), (3, .ref (zt_ad G 122))]) hx hb dL_resolve_13 hl (by decide) rfl (fun ls hl => ?_)
      refine lv_iconst (v := 1) hx hb dL_resolve_15 (by decide) ?_
      refine vx_ret ?_; refine W.widen (k := 1) (n := 6) (Nat.le_of_ble_eq_true rfl) (Nat.le_of_ble_eq_true rfl) ?_
      exact W.iret hx hb hr (fun t ht hW => ⟨⟨_, _, rfl, (Prod.mk.inj (Option.some.inj hf)), zt_go hE hP hS zt_id2 ht hW⟩, hS.F ht⟩) hS.2.2 dL_resolve_16
    · exfalso
      have hf := (if_neg (show ¬ e1 = 1 by rw [he]; decide)).symm.trans hf
      exact nomatch hf
    · exfalso
      have hf := (if_neg (show ¬ e1 = 1 by rw [he]; decide)).symm.trans hf
      exact nomatch hf
  rcases hzv1 with ⟨-, hf⟩ | ⟨h0, -⟩
  rotate_left
  · exact absurd hw.1 h0
  rw [hw.2.1]; have hB : zt_B G u t := hB; rw [hw.2.2] at hB; have hP := zt_B.P hB ht
  refine W.cs (cells' := 1) (slots' := 6) rfl rfl ?_
  refine lv_i2l (v := (v1 : Int32).toInt64) hx hb dL_resolve_8 rfl ?_
  obtain ⟨σ3, hσ3, hf⟩ := zt_lt_some hf
  refine va_last hx hb hK hP (zt_apart2 hE.1) hS 122 3 (zt_a12 (k := 122) rfl) rfl (zt_gI_in (show zt_gI 0 1 = true by decide +kernel)) dL_resolve_9 (fun H locs hP _ hS => ?_)
  rw [show ((0 : Int32).toNatClampNeg) = 0 from by decide, zt_p12 (k := 122) rfl, ← hσ3] at hP
  refine lv_goto (tgt := 17) hx hb dL_resolve_10 (by decide) ?_
  refine lv_iconst (v := 0) hx hb dL_resolve_17 (by decide) ?_
  refine vx_ret ?_; refine W.widen (k := 1) (n := 6) (Nat.le_of_ble_eq_true rfl) (Nat.le_of_ble_eq_true rfl) ?_
  exact W.iret hx hb hr (fun t ht hW => ⟨⟨_, _, rfl, (Prod.mk.inj (Option.some.inj hf)), zt_go hE hP hS zt_id2 ht hW⟩, hS.F ht⟩) hS.2.2 dL_resolve_18

theorem zh_L_resolveAnew : yL_resolveAnew.cls ≠ "java/lang/invoke/MethodHandle" ∧ yL_resolveAnew.cls ≠ "java/lang/invoke/VarHandle" ∧ (parseMethodDescriptor yL_resolveAnew.desc).map (fun d => d.parameters.length) = some 4 := by decide +kernel
set_option maxHeartbeats 4000000 in
set_option maxRecDepth 100000 in
theorem m_L_resolveAnew (l : Launch) (hl2 : l.stackTraces = false) (G : zt_G) {σ : zt_St} {x1 : Int32} {x2 : Int32} {r : Int32} {σ1 : zt_St} {sz : Nat} (hf : f_L_resolveAnew σ x1 x2 = some (r, σ1)) : zt_MU l G yL_resolveAnew wsL_resolveAnew 8 193 1 6 [.ref (zt_ad G 0), .int x1, .int x2, .ref (zt_ad G 122)] sz σ r σ1 := by
  refine vx_ofWH (cc := cL_resolveAnew) (maxL := 5) (ret := (some .int)) (hh := [(0, 10, 13, 13)]) (by decide) rfl ?_
  intro p e s m args below meth c s₁ B hml hv
  have htab : c.exceptionTable.toList = tableOf [(0, 10, 13, 13)] := vx_table (x := yL_resolveAnew) B (atoms_spec (ws := wsL_resolveAnew) B.pre _ List.mem_cons_self)
  obtain ⟨rfl, rfl, hBB, hX⟩ := hv
  have hE := zt_B.env hBB; have hK := hE.2.1; have hP := hBB.2.1
  have hx := B.exec; have hb := B.bytes; have hr := B.returns; have hts := atoms_spec (ws := wsL_resolveAnew) B.pre
  have hown : s.vm.findClass RL = some m.cls := findClass_of_methodNamed B.named
  have hlocks := B.notSynchronized
  have hS : va_S (zt_A2 G s.heap.size) s.heap s.heap [] := va_S.rf
  have hl := lv_entry ([.ref (zt_ad G 0), .int x1, .int x2, .ref (zt_ad G 122)]) (n := 5) (Nat.le_of_ble_eq_true rfl)
  rw [lg_entry_eq]
  generalize (lg_sl ([.ref (zt_ad G 0), .int x1, .int x2, .ref (zt_ad G 122)]) ++ List.replicate (5 - (lg_sl ([.ref (zt_ad G 0), .int x1, .int x2, .ref (zt_ad G 122)])).length) Slot.unset).toArray = ls at hl ⊢
  have hl : lv_has ls 5 [(0, .ref (zt_ad G 0)), (1, .int x1), (2, .int x2), (3, .ref (zt_ad G 122))] := hl
  show W p l e (zt_RX 8 193 1 6) s m ([.ref (zt_ad G 0), .int x1, .int x2, .ref (zt_ad G 122)] : List Value).toArray below meth c s.heap [] 0 0 (vx_MQ below (zt_Ui G r σ1 s.heap.size) (zt_UX G s.heap.size) ([.ref (zt_ad G 0), .int x1, .int x2, .ref (zt_ad G 122)] : List Value).toArray s 1 6 (zt_A2 G s.heap.size)) (F0 m 0 ls [])
  unfold f_L_resolveAnew at hf
  refine lv_aload_n hx hb dL_resolveAnew_0 rfl (lv_at hl 3 rfl) ?_
  refine lv_iconst (v := 0) hx hb dL_resolveAnew_1 (by decide) ?_
  refine lv_aload_n hx hb dL_resolveAnew_2 rfl (lv_at hl 0 rfl) ?_
  refine lv_iload_n hx hb dL_resolveAnew_3 rfl (lv_at hl 1 rfl) ?_
  refine lv_iload_n hx hb dL_resolveAnew_4 rfl (lv_at hl 2 rfl) ?_
  obtain ⟨e1, v1, σ2, hvv1, hzv1⟩ := zt_bl_some hf
  refine vx_calli (vx_runV (As := [.int x1, .int x2]) (rest := [.int 0, .ref (zt_ad G 122)]) ⟨hx, hb, hml, hown, hts⟩ (m_X8_resolveAnew l hl2 G (σ := σ) hvv1) (cwV 2 hts gL_resolveAnew_X8_resolveAnew rfl rfl rfl zh_X8_resolveAnew ⟨Nat.le_of_ble_eq_true rfl, Nat.le_of_ble_eq_true rfl⟩) ⟨zt_blind2, va_recv hK hP (ci := 7) (q0 := 0) rfl (zt_a7 (rfl : zt_kd 0 = 7)), fun U hU hW => ⟨rfl, zt_go2 hE hX hP hS hU hW⟩⟩ rfl rfl hl.1 rfl (lv_room (Nat.le_of_ble_eq_true rfl)) dL_resolveAnew_5 ⟨Nat.le_of_ble_eq_true rfl, Nat.le_of_ble_eq_true rfl⟩) hS (zt_dn hS) (zt_up hS) (zt_dn hS) (fun E ce q9 u t H locs ht hvm hw hB _ _ hS hce hcv hcl => ?_) (fun r u t H locs ht hvm hw hB _ _ hS => ?_)
  · rcases hzv1 with ⟨h0, -⟩ | ⟨-, hf⟩
    · exact absurd h0 (zt_exc_ne hB.1)
    have hP := hB.2; rw [hw, ht] at hP
    rcases hB.1 with ⟨he, hEE⟩ | ⟨he, hEE⟩ | ⟨he, hEE⟩
    · subst hEE
      have hf := (if_pos he).symm.trans hf
      refine vx_catch (name := "java/lang/IllegalArgumentException") hown [] ⟨0, 10, 13, 13⟩ [] (by rw [htab]; rfl) (fun z hz => absurd hz List.not_mem_nil) (by decide) (by decide) (hts (.classLink RL 13 "java/lang/IllegalArgumentException") (List.mem_cons_of_mem _ (List.mem_append_left _ (List.mem_append_left _ (List.mem_append_left _ (List.mem_append_left _ (List.mem_append_left _ (List.mem_append_left _ (List.mem_append_left _ (List.mem_append_left _ (List.mem_append_left _ (List.mem_of_getElem? (i := 0) rfl)))))))))))) (va_Nw.use rfl (hX.2.2.2.2.1 ("java/lang/IllegalArgumentException", "java/lang/IllegalArgumentException") (List.mem_of_getElem? (i := 0) rfl))) hce hcv hcl ?_
      refine lv_astore (lv' := [(4, .ref q9), (0, .ref (zt_ad G 0)), (1, .int x1), (2, .int x2), (3, .ref (zt_ad G 122))]) hx hb dL_resolveAnew_13 hl (by decide) rfl (fun ls hl => ?_)
      refine lv_iconst (v := 1) hx hb dL_resolveAnew_15 (by decide) ?_
      refine vx_ret ?_; refine W.widen (k := 1) (n := 6) (Nat.le_of_ble_eq_true rfl) (Nat.le_of_ble_eq_true rfl) ?_
      exact W.iret hx hb hr (fun t ht hW => ⟨⟨_, _, rfl, (Prod.mk.inj (Option.some.inj hf)), zt_go hE hP hS zt_id2 ht hW⟩, hS.F ht⟩) hS.2.2 dL_resolveAnew_16
    · exfalso
      have hf := (if_neg (show ¬ e1 = 1 by rw [he]; decide)).symm.trans hf
      exact nomatch hf
    · exfalso
      have hf := (if_neg (show ¬ e1 = 1 by rw [he]; decide)).symm.trans hf
      exact nomatch hf
  rcases hzv1 with ⟨-, hf⟩ | ⟨h0, -⟩
  rotate_left
  · exact absurd hw.1 h0
  rw [hw.2.1]; have hB : zt_B G u t := hB; rw [hw.2.2] at hB; have hP := zt_B.P hB ht
  refine W.cs (cells' := 1) (slots' := 6) rfl rfl ?_
  refine lv_i2l (v := (v1 : Int32).toInt64) hx hb dL_resolveAnew_8 rfl ?_
  obtain ⟨σ3, hσ3, hf⟩ := zt_lt_some hf
  refine va_last hx hb hK hP (zt_apart2 hE.1) hS 122 3 (zt_a12 (k := 122) rfl) rfl (zt_gI_in (show zt_gI 0 1 = true by decide +kernel)) dL_resolveAnew_9 (fun H locs hP _ hS => ?_)
  rw [show ((0 : Int32).toNatClampNeg) = 0 from by decide, zt_p12 (k := 122) rfl, ← hσ3] at hP
  refine lv_goto (tgt := 17) hx hb dL_resolveAnew_10 (by decide) ?_
  refine lv_iconst (v := 0) hx hb dL_resolveAnew_17 (by decide) ?_
  refine vx_ret ?_; refine W.widen (k := 1) (n := 6) (Nat.le_of_ble_eq_true rfl) (Nat.le_of_ble_eq_true rfl) ?_
  exact W.iret hx hb hr (fun t ht hW => ⟨⟨_, _, rfl, (Prod.mk.inj (Option.some.inj hf)), zt_go hE hP hS zt_id2 ht hW⟩, hS.F ht⟩) hS.2.2 dL_resolveAnew_18

theorem zh_L_pass : yL_pass.cls ≠ "java/lang/invoke/MethodHandle" ∧ yL_pass.cls ≠ "java/lang/invoke/VarHandle" ∧ (parseMethodDescriptor yL_pass.desc).map (fun d => d.parameters.length) = some 3 := by decide +kernel
set_option maxHeartbeats 4000000 in
set_option maxRecDepth 100000 in
theorem m_L_pass (l : Launch) (hl2 : l.stackTraces = false) (G : zt_G) {σ : zt_St} {x1 : Int32} {r : Int32} {σ1 : zt_St} {sz : Nat} (hf : f_L_pass σ x1 = some (r, σ1)) : zt_MU l G yL_pass wsL_pass 7 103 1 6 [.ref (zt_ad G 0), .int x1, .ref (zt_ad G 122)] sz σ r σ1 := by
  refine vx_ofWH (cc := cL_pass) (maxL := 4) (ret := (some .int)) (hh := [(0, 9, 12, 13)]) (by decide) rfl ?_
  intro p e s m args below meth c s₁ B hml hv
  have htab : c.exceptionTable.toList = tableOf [(0, 9, 12, 13)] := vx_table (x := yL_pass) B (atoms_spec (ws := wsL_pass) B.pre _ List.mem_cons_self)
  obtain ⟨rfl, rfl, hBB, hX⟩ := hv
  have hE := zt_B.env hBB; have hK := hE.2.1; have hP := hBB.2.1
  have hx := B.exec; have hb := B.bytes; have hr := B.returns; have hts := atoms_spec (ws := wsL_pass) B.pre
  have hown : s.vm.findClass RL = some m.cls := findClass_of_methodNamed B.named
  have hlocks := B.notSynchronized
  have hS : va_S (zt_A2 G s.heap.size) s.heap s.heap [] := va_S.rf
  have hl := lv_entry ([.ref (zt_ad G 0), .int x1, .ref (zt_ad G 122)]) (n := 4) (Nat.le_of_ble_eq_true rfl)
  rw [lg_entry_eq]
  generalize (lg_sl ([.ref (zt_ad G 0), .int x1, .ref (zt_ad G 122)]) ++ List.replicate (4 - (lg_sl ([.ref (zt_ad G 0), .int x1, .ref (zt_ad G 122)])).length) Slot.unset).toArray = ls at hl ⊢
  have hl : lv_has ls 4 [(0, .ref (zt_ad G 0)), (1, .int x1), (2, .ref (zt_ad G 122))] := hl
  show W p l e (zt_RX 7 103 1 6) s m ([.ref (zt_ad G 0), .int x1, .ref (zt_ad G 122)] : List Value).toArray below meth c s.heap [] 0 0 (vx_MQ below (zt_Ui G r σ1 s.heap.size) (zt_UX G s.heap.size) ([.ref (zt_ad G 0), .int x1, .ref (zt_ad G 122)] : List Value).toArray s 1 6 (zt_A2 G s.heap.size)) (F0 m 0 ls [])
  unfold f_L_pass at hf
  refine lv_aload_n hx hb dL_pass_0 rfl (lv_at hl 2 rfl) ?_
  refine lv_iconst (v := 0) hx hb dL_pass_1 (by decide) ?_
  refine lv_aload_n hx hb dL_pass_2 rfl (lv_at hl 0 rfl) ?_
  refine lv_iload_n hx hb dL_pass_3 rfl (lv_at hl 1 rfl) ?_
  obtain ⟨e1, v1, σ2, hvv1, hzv1⟩ := zt_bl_some hf
  refine vx_calli (vx_runV (As := [.int x1]) (rest := [.int 0, .ref (zt_ad G 122)]) ⟨hx, hb, hml, hown, hts⟩ (m_X8_pass l hl2 G (σ := σ) hvv1) (cwV 1 hts gL_pass_X8_pass rfl rfl rfl zh_X8_pass ⟨Nat.le_of_ble_eq_true rfl, Nat.le_of_ble_eq_true rfl⟩) ⟨zt_blind2, va_recv hK hP (ci := 7) (q0 := 0) rfl (zt_a7 (rfl : zt_kd 0 = 7)), fun U hU hW => ⟨rfl, zt_go2 hE hX hP hS hU hW⟩⟩ rfl rfl hl.1 rfl (lv_room (Nat.le_of_ble_eq_true rfl)) dL_pass_4 ⟨Nat.le_of_ble_eq_true rfl, Nat.le_of_ble_eq_true rfl⟩) hS (zt_dn hS) (zt_up hS) (zt_dn hS) (fun E ce q9 u t H locs ht hvm hw hB _ _ hS hce hcv hcl => ?_) (fun r u t H locs ht hvm hw hB _ _ hS => ?_)
  · rcases hzv1 with ⟨h0, -⟩ | ⟨-, hf⟩
    · exact absurd h0 (zt_exc_ne hB.1)
    have hP := hB.2; rw [hw, ht] at hP
    rcases hB.1 with ⟨he, hEE⟩ | ⟨he, hEE⟩ | ⟨he, hEE⟩
    · subst hEE
      have hf := (if_pos he).symm.trans hf
      refine vx_catch (name := "java/lang/IllegalArgumentException") hown [] ⟨0, 9, 12, 13⟩ [] (by rw [htab]; rfl) (fun z hz => absurd hz List.not_mem_nil) (by decide) (by decide) (hts (.classLink RL 13 "java/lang/IllegalArgumentException") (List.mem_cons_of_mem _ (List.mem_append_left _ (List.mem_append_left _ (List.mem_append_left _ (List.mem_of_getElem? (i := 0) rfl)))))) (va_Nw.use rfl (hX.2.2.2.2.1 ("java/lang/IllegalArgumentException", "java/lang/IllegalArgumentException") (List.mem_of_getElem? (i := 0) rfl))) hce hcv hcl ?_
      refine lv_astore_n (lv' := [(3, .ref q9), (0, .ref (zt_ad G 0)), (1, .int x1), (2, .ref (zt_ad G 122))]) hx hb dL_pass_12 rfl hl (by decide) rfl (fun ls hl => ?_)
      refine lv_iconst (v := 1) hx hb dL_pass_13 (by decide) ?_
      refine vx_ret ?_; refine W.widen (k := 1) (n := 6) (Nat.le_of_ble_eq_true rfl) (Nat.le_of_ble_eq_true rfl) ?_
      exact W.iret hx hb hr (fun t ht hW => ⟨⟨_, _, rfl, (Prod.mk.inj (Option.some.inj hf)), zt_go hE hP hS zt_id2 ht hW⟩, hS.F ht⟩) hS.2.2 dL_pass_14
    · exfalso
      have hf := (if_neg (show ¬ e1 = 1 by rw [he]; decide)).symm.trans hf
      exact nomatch hf
    · exfalso
      have hf := (if_neg (show ¬ e1 = 1 by rw [he]; decide)).symm.trans hf
      exact nomatch hf
  rcases hzv1 with ⟨-, hf⟩ | ⟨h0, -⟩
  rotate_left
  · exact absurd hw.1 h0
  rw [hw.2.1]; have hB : zt_B G u t := hB; rw [hw.2.2] at hB; have hP := zt_B.P hB ht
  refine W.cs (cells' := 1) (slots' := 6) rfl rfl ?_
  refine lv_i2l (v := (v1 : Int32).toInt64) hx hb dL_pass_7 rfl ?_
  obtain ⟨σ3, hσ3, hf⟩ := zt_lt_some hf
  refine va_last hx hb hK hP (zt_apart2 hE.1) hS 122 3 (zt_a12 (k := 122) rfl) rfl (zt_gI_in (show zt_gI 0 1 = true by decide +kernel)) dL_pass_8 (fun H locs hP _ hS => ?_)
  rw [show ((0 : Int32).toNatClampNeg) = 0 from by decide, zt_p12 (k := 122) rfl, ← hσ3] at hP
  refine lv_goto (tgt := 15) hx hb dL_pass_9 (by decide) ?_
  refine lv_iconst (v := 0) hx hb dL_pass_15 (by decide) ?_
  refine vx_ret ?_; refine W.widen (k := 1) (n := 6) (Nat.le_of_ble_eq_true rfl) (Nat.le_of_ble_eq_true rfl) ?_
  exact W.iret hx hb hr (fun t ht hW => ⟨⟨_, _, rfl, (Prod.mk.inj (Option.some.inj hf)), zt_go hE hP hS zt_id2 ht hW⟩, hS.F ht⟩) hS.2.2 dL_pass_16

theorem zh_L_setKey : yL_setKey.cls ≠ "java/lang/invoke/MethodHandle" ∧ yL_setKey.cls ≠ "java/lang/invoke/VarHandle" ∧ (parseMethodDescriptor yL_setKey.desc).map (fun d => d.parameters.length) = some 5 := by decide +kernel
set_option maxHeartbeats 4000000 in
set_option maxRecDepth 100000 in
theorem m_L_setKey (l : Launch) (hl2 : l.stackTraces = false) (G : zt_G) {σ : zt_St} {x1 : Int32} {x2 : Int32} {x3 : Int32} {r : Int32} {σ1 : zt_St} {sz : Nat} (hf : f_L_setKey σ x1 x2 x3 = some (r, σ1)) : zt_MU l G yL_setKey wsL_setKey 8 126 2 12 [.ref (zt_ad G 0), .int x1, .int x2, .int x3, .ref (zt_ad G 122)] sz σ r σ1 := by
  refine vx_ofWH (cc := cL_setKey) (maxL := 6) (ret := (some .int)) (hh := [(0, 12, 15, 32), (0, 12, 19, 13)]) (by decide) rfl ?_
  intro p e s m args below meth c s₁ B hml hv
  have htab : c.exceptionTable.toList = tableOf [(0, 12, 15, 32), (0, 12, 19, 13)] := vx_table (x := yL_setKey) B (atoms_spec (ws := wsL_setKey) B.pre _ List.mem_cons_self)
  obtain ⟨rfl, rfl, hBB, hX⟩ := hv
  have hE := zt_B.env hBB; have hK := hE.2.1; have hP := hBB.2.1
  have hx := B.exec; have hb := B.bytes; have hr := B.returns; have hts := atoms_spec (ws := wsL_setKey) B.pre
  have hown : s.vm.findClass RL = some m.cls := findClass_of_methodNamed B.named
  have hlocks := B.notSynchronized
  have hS : va_S (zt_A2 G s.heap.size) s.heap s.heap [] := va_S.rf
  have hl := lv_entry ([.ref (zt_ad G 0), .int x1, .int x2, .int x3, .ref (zt_ad G 122)]) (n := 6) (Nat.le_of_ble_eq_true rfl)
  rw [lg_entry_eq]
  generalize (lg_sl ([.ref (zt_ad G 0), .int x1, .int x2, .int x3, .ref (zt_ad G 122)]) ++ List.replicate (6 - (lg_sl ([.ref (zt_ad G 0), .int x1, .int x2, .int x3, .ref (zt_ad G 122)])).length) Slot.unset).toArray = ls at hl ⊢
  have hl : lv_has ls 6 [(0, .ref (zt_ad G 0)), (1, .int x1), (2, .int x2), (3, .int x3), (4, .ref (zt_ad G 122))] := hl
  show W p l e (zt_RX 8 126 2 12) s m ([.ref (zt_ad G 0), .int x1, .int x2, .int x3, .ref (zt_ad G 122)] : List Value).toArray below meth c s.heap [] 0 0 (vx_MQ below (zt_Ui G r σ1 s.heap.size) (zt_UX G s.heap.size) ([.ref (zt_ad G 0), .int x1, .int x2, .int x3, .ref (zt_ad G 122)] : List Value).toArray s 2 12 (zt_A2 G s.heap.size)) (F0 m 0 ls [])
  unfold f_L_setKey at hf
  refine lv_aload hx hb dL_setKey_0 (lv_at hl 4 rfl) ?_
  refine lv_iconst (v := 0) hx hb dL_setKey_2 (by decide) ?_
  refine lv_aload_n hx hb dL_setKey_3 rfl (lv_at hl 0 rfl) ?_
  refine lv_iload_n hx hb dL_setKey_4 rfl (lv_at hl 1 rfl) ?_
  refine lv_iload_n hx hb dL_setKey_5 rfl (lv_at hl 2 rfl) ?_
  refine lv_iload_n hx hb dL_setKey_6 rfl (lv_at hl 3 rfl) ?_
  obtain ⟨e1, v1, σ2, hvv1, hzv1⟩ := zt_bl_some hf
  refine vx_calli (vx_runV (As := [.int x1, .int x2, .int x3]) (rest := [.int 0, .ref (zt_ad G 122)]) ⟨hx, hb, hml, hown, hts⟩ (m_X8_setKey l hl2 G (σ := σ) hvv1) (cwV 3 hts gL_setKey_X8_setKey rfl rfl rfl zh_X8_setKey ⟨Nat.le_of_ble_eq_true rfl, Nat.le_of_ble_eq_true rfl⟩) ⟨zt_blind2, va_recv hK hP (ci := 7) (q0 := 0) rfl (zt_a7 (rfl : zt_kd 0 = 7)), fun U hU hW => ⟨rfl, zt_go2 hE hX hP hS hU hW⟩⟩ rfl rfl hl.1 rfl (lv_room (Nat.le_of_ble_eq_true rfl)) dL_setKey_7 ⟨Nat.le_of_ble_eq_true rfl, Nat.le_of_ble_eq_true rfl⟩) hS (zt_dn hS) (zt_up hS) (zt_dn hS) (fun E ce q9 u t H locs ht hvm hw hB _ _ hS hce hcv hcl => ?_) (fun r u t H locs ht hvm hw hB _ _ hS => ?_)
  · rcases hzv1 with ⟨h0, -⟩ | ⟨-, hf⟩
    · exact absurd h0 (zt_exc_ne hB.1)
    have hP := hB.2; rw [hw, ht] at hP
    rcases hB.1 with ⟨he, hEE⟩ | ⟨he, hEE⟩ | ⟨he, hEE⟩
    · subst hEE
      have hf := (if_neg (show ¬ e1 = 3 by rw [he]; decide)).symm.trans hf
      have hf := (if_pos he).symm.trans hf
      refine vx_catch (name := "java/lang/IllegalArgumentException") hown [⟨0, 12, 15, 32⟩] ⟨0, 12, 19, 13⟩ [] (by rw [htab]; rfl) (fun z hz => by
                      rcases List.mem_cons.mp hz with rfl | hz
                      · exact Or.inr ⟨by decide, _, hts (.classLink RL 32 "java/lang/IndexOutOfBoundsException") (List.mem_cons_of_mem _ (List.mem_append_left _ (List.mem_append_left _ (List.mem_append_left _ (List.mem_append_left _ (List.mem_append_left _ (List.mem_append_left _ (List.mem_of_getElem? (i := 0) rfl)))))))), hX.2.2.2.2.2 ("java/lang/IllegalArgumentException", "java/lang/IndexOutOfBoundsException") (List.mem_of_getElem? (i := 0) rfl)⟩
                      exact absurd hz List.not_mem_nil) (by decide) (by decide) (hts (.classLink RL 13 "java/lang/IllegalArgumentException") (List.mem_cons_of_mem _ (List.mem_append_left _ (List.mem_append_left _ (List.mem_append_left _ (List.mem_append_left _ (List.mem_append_left _ (List.mem_append_left _ (List.mem_of_getElem? (i := 1) rfl))))))))) (va_Nw.use rfl (hX.2.2.2.2.1 ("java/lang/IllegalArgumentException", "java/lang/IllegalArgumentException") (List.mem_of_getElem? (i := 0) rfl))) hce hcv hcl ?_
      refine lv_astore (lv' := [(5, .ref q9), (0, .ref (zt_ad G 0)), (1, .int x1), (2, .int x2), (3, .int x3), (4, .ref (zt_ad G 122))]) hx hb dL_setKey_19 hl (by decide) rfl (fun ls hl => ?_)
      refine lv_iconst (v := 2) hx hb dL_setKey_21 (by decide) ?_
      refine vx_ret ?_; refine W.widen (k := 2) (n := 12) (Nat.le_of_ble_eq_true rfl) (Nat.le_of_ble_eq_true rfl) ?_
      exact W.iret hx hb hr (fun t ht hW => ⟨⟨_, _, rfl, (Prod.mk.inj (Option.some.inj hf)), zt_go hE hP hS zt_id2 ht hW⟩, hS.F ht⟩) hS.2.2 dL_setKey_22
    · exfalso
      have hf := (if_neg (show ¬ e1 = 3 by rw [he]; decide)).symm.trans hf
      have hf := (if_neg (show ¬ e1 = 1 by rw [he]; decide)).symm.trans hf
      exact nomatch hf
    · subst hEE
      have hf := (if_pos he).symm.trans hf
      refine vx_catch (name := "java/lang/IndexOutOfBoundsException") hown [] ⟨0, 12, 15, 32⟩ [⟨0, 12, 19, 13⟩] (by rw [htab]; rfl) (fun z hz => absurd hz List.not_mem_nil) (by decide) (by decide) (hts (.classLink RL 32 "java/lang/IndexOutOfBoundsException") (List.mem_cons_of_mem _ (List.mem_append_left _ (List.mem_append_left _ (List.mem_append_left _ (List.mem_append_left _ (List.mem_append_left _ (List.mem_append_left _ (List.mem_of_getElem? (i := 0) rfl))))))))) (va_Nw.use rfl (hX.2.2.2.2.1 ("java/lang/IndexOutOfBoundsException", "java/lang/IndexOutOfBoundsException") (List.mem_of_getElem? (i := 2) rfl))) hce hcv hcl ?_
      refine lv_astore (lv' := [(5, .ref q9), (0, .ref (zt_ad G 0)), (1, .int x1), (2, .int x2), (3, .int x3), (4, .ref (zt_ad G 122))]) hx hb dL_setKey_15 hl (by decide) rfl (fun ls hl => ?_)
      refine lv_iconst (v := 1) hx hb dL_setKey_17 (by decide) ?_
      refine vx_ret ?_; refine W.widen (k := 2) (n := 12) (Nat.le_of_ble_eq_true rfl) (Nat.le_of_ble_eq_true rfl) ?_
      exact W.iret hx hb hr (fun t ht hW => ⟨⟨_, _, rfl, (Prod.mk.inj (Option.some.inj hf)), zt_go hE hP hS zt_id2 ht hW⟩, hS.F ht⟩) hS.2.2 dL_setKey_18
  rcases hzv1 with ⟨-, hf⟩ | ⟨h0, -⟩
  rotate_left
  · exact absurd hw.1 h0
  rw [hw.2.1]; have hB : zt_B G u t := hB; rw [hw.2.2] at hB; have hP := zt_B.P hB ht
  refine W.cs (cells' := 2) (slots' := 12) rfl rfl ?_
  refine lv_i2l (v := (v1 : Int32).toInt64) hx hb dL_setKey_10 rfl ?_
  obtain ⟨σ3, hσ3, hf⟩ := zt_lt_some hf
  refine va_last hx hb hK hP (zt_apart2 hE.1) hS 122 3 (zt_a12 (k := 122) rfl) rfl (zt_gI_in (show zt_gI 0 1 = true by decide +kernel)) dL_setKey_11 (fun H locs hP _ hS => ?_)
  rw [show ((0 : Int32).toNatClampNeg) = 0 from by decide, zt_p12 (k := 122) rfl, ← hσ3] at hP
  refine lv_goto (tgt := 23) hx hb dL_setKey_12 (by decide) ?_
  refine lv_iconst (v := 0) hx hb dL_setKey_23 (by decide) ?_
  refine vx_ret ?_; refine W.widen (k := 2) (n := 12) (Nat.le_of_ble_eq_true rfl) (Nat.le_of_ble_eq_true rfl) ?_
  exact W.iret hx hb hr (fun t ht hW => ⟨⟨_, _, rfl, (Prod.mk.inj (Option.some.inj hf)), zt_go hE hP hS zt_id2 ht hW⟩, hS.F ht⟩) hS.2.2 dL_setKey_24

theorem zh_L_setWindow : yL_setWindow.cls ≠ "java/lang/invoke/MethodHandle" ∧ yL_setWindow.cls ≠ "java/lang/invoke/VarHandle" ∧ (parseMethodDescriptor yL_setWindow.desc).map (fun d => d.parameters.length) = some 4 := by decide +kernel
set_option maxHeartbeats 4000000 in
set_option maxRecDepth 100000 in
theorem m_L_setWindow (l : Launch) (hl2 : l.stackTraces = false) (G : zt_G) {σ : zt_St} {x1 : Int32} {x2 : Int32} {x3 : Int32} {r : Int32} {σ1 : zt_St} {sz : Nat} (hf : f_L_setWindow σ x1 x2 x3 = some (r, σ1)) : zt_MU l G yL_setWindow wsL_setWindow 8 127 2 12 [.ref (zt_ad G 0), .int x1, .int x2, .int x3] sz σ r σ1 := by
  refine vx_ofWH (cc := cL_setWindow) (maxL := 5) (ret := (some .int)) (hh := [(0, 7, 10, 32), (0, 7, 14, 13)]) (by decide) rfl ?_
  intro p e s m args below meth c s₁ B hml hv
  have htab : c.exceptionTable.toList = tableOf [(0, 7, 10, 32), (0, 7, 14, 13)] := vx_table (x := yL_setWindow) B (atoms_spec (ws := wsL_setWindow) B.pre _ List.mem_cons_self)
  obtain ⟨rfl, rfl, hBB, hX⟩ := hv
  have hE := zt_B.env hBB; have hK := hE.2.1; have hP := hBB.2.1
  have hx := B.exec; have hb := B.bytes; have hr := B.returns; have hts := atoms_spec (ws := wsL_setWindow) B.pre
  have hown : s.vm.findClass RL = some m.cls := findClass_of_methodNamed B.named
  have hlocks := B.notSynchronized
  have hS : va_S (zt_A2 G s.heap.size) s.heap s.heap [] := va_S.rf
  have hl := lv_entry ([.ref (zt_ad G 0), .int x1, .int x2, .int x3]) (n := 5) (Nat.le_of_ble_eq_true rfl)
  rw [lg_entry_eq]
  generalize (lg_sl ([.ref (zt_ad G 0), .int x1, .int x2, .int x3]) ++ List.replicate (5 - (lg_sl ([.ref (zt_ad G 0), .int x1, .int x2, .int x3])).length) Slot.unset).toArray = ls at hl ⊢
  have hl : lv_has ls 5 [(0, .ref (zt_ad G 0)), (1, .int x1), (2, .int x2), (3, .int x3)] := hl
  show W p l e (zt_RX 8 127 2 12) s m ([.ref (zt_ad G 0), .int x1, .int x2, .int x3] : List Value).toArray below meth c s.heap [] 0 0 (vx_MQ below (zt_Ui G r σ1 s.heap.size) (zt_UX G s.heap.size) ([.ref (zt_ad G 0), .int x1, .int x2, .int x3] : List Value).toArray s 2 12 (zt_A2 G s.heap.size)) (F0 m 0 ls [])
  unfold f_L_setWindow at hf
  refine lv_aload_n hx hb dL_setWindow_0 rfl (lv_at hl 0 rfl) ?_
  refine lv_iload_n hx hb dL_setWindow_1 rfl (lv_at hl 1 rfl) ?_
  refine lv_iload_n hx hb dL_setWindow_2 rfl (lv_at hl 2 rfl) ?_
  refine lv_iload_n hx hb dL_setWindow_3 rfl (lv_at hl 3 rfl) ?_
  obtain ⟨e1, v1, σ2, hvv1, hzv1⟩ := zt_bl_some hf
  refine vx_callv (vx_runV (As := [.int x1, .int x2, .int x3]) (rest := []) ⟨hx, hb, hml, hown, hts⟩ (m_X8_setWindow l hl2 G (σ := σ) hvv1) (cwV 3 hts gL_setWindow_X8_setWindow rfl rfl rfl zh_X8_setWindow ⟨Nat.le_of_ble_eq_true rfl, Nat.le_of_ble_eq_true rfl⟩) ⟨zt_blind2, va_recv hK hP (ci := 7) (q0 := 0) rfl (zt_a7 (rfl : zt_kd 0 = 7)), fun U hU hW => ⟨rfl, zt_go2 hE hX hP hS hU hW⟩⟩ rfl rfl hl.1 rfl (lv_room (Nat.le_of_ble_eq_true rfl)) dL_setWindow_4 ⟨Nat.le_of_ble_eq_true rfl, Nat.le_of_ble_eq_true rfl⟩) hS (zt_dn hS) (zt_up hS) (zt_dn hS) (fun E ce q9 u t H locs ht hvm hw hB _ _ hS hce hcv hcl => ?_) (fun u t H locs ht hvm hw hB _ _ hS => ?_)
  · rcases hzv1 with ⟨h0, -⟩ | ⟨-, hf⟩
    · exact absurd h0 (zt_exc_ne hB.1)
    have hP := hB.2; rw [hw, ht] at hP
    rcases hB.1 with ⟨he, hEE⟩ | ⟨he, hEE⟩ | ⟨he, hEE⟩
    · subst hEE
      have hf := (if_neg (show ¬ e1 = 3 by rw [he]; decide)).symm.trans hf
      have hf := (if_pos he).symm.trans hf
      refine vx_catch (name := "java/lang/IllegalArgumentException") hown [⟨0, 7, 10, 32⟩] ⟨0, 7, 14, 13⟩ [] (by rw [htab]; rfl) (fun z hz => by
                      rcases List.mem_cons.mp hz with rfl | hz
                      · exact Or.inr ⟨by decide, _, hts (.classLink RL 32 "java/lang/IndexOutOfBoundsException") (List.mem_cons_of_mem _ (List.mem_append_left _ (List.mem_append_left _ (List.mem_append_left _ (List.mem_append_left _ (List.mem_append_left _ (List.mem_of_getElem? (i := 0) rfl))))))), hX.2.2.2.2.2 ("java/lang/IllegalArgumentException", "java/lang/IndexOutOfBoundsException") (List.mem_of_getElem? (i := 0) rfl)⟩
                      exact absurd hz List.not_mem_nil) (by decide) (by decide) (hts (.classLink RL 13 "java/lang/IllegalArgumentException") (List.mem_cons_of_mem _ (List.mem_append_left _ (List.mem_append_left _ (List.mem_append_left _ (List.mem_append_left _ (List.mem_append_left _ (List.mem_of_getElem? (i := 1) rfl)))))))) (va_Nw.use rfl (hX.2.2.2.2.1 ("java/lang/IllegalArgumentException", "java/lang/IllegalArgumentException") (List.mem_of_getElem? (i := 0) rfl))) hce hcv hcl ?_
      refine lv_astore (lv' := [(4, .ref q9), (0, .ref (zt_ad G 0)), (1, .int x1), (2, .int x2), (3, .int x3)]) hx hb dL_setWindow_14 hl (by decide) rfl (fun ls hl => ?_)
      refine lv_iconst (v := 2) hx hb dL_setWindow_16 (by decide) ?_
      refine vx_ret ?_; refine W.widen (k := 2) (n := 12) (Nat.le_of_ble_eq_true rfl) (Nat.le_of_ble_eq_true rfl) ?_
      exact W.iret hx hb hr (fun t ht hW => ⟨⟨_, _, rfl, (Prod.mk.inj (Option.some.inj hf)), zt_go hE hP hS zt_id2 ht hW⟩, hS.F ht⟩) hS.2.2 dL_setWindow_17
    · exfalso
      have hf := (if_neg (show ¬ e1 = 3 by rw [he]; decide)).symm.trans hf
      have hf := (if_neg (show ¬ e1 = 1 by rw [he]; decide)).symm.trans hf
      exact nomatch hf
    · subst hEE
      have hf := (if_pos he).symm.trans hf
      refine vx_catch (name := "java/lang/IndexOutOfBoundsException") hown [] ⟨0, 7, 10, 32⟩ [⟨0, 7, 14, 13⟩] (by rw [htab]; rfl) (fun z hz => absurd hz List.not_mem_nil) (by decide) (by decide) (hts (.classLink RL 32 "java/lang/IndexOutOfBoundsException") (List.mem_cons_of_mem _ (List.mem_append_left _ (List.mem_append_left _ (List.mem_append_left _ (List.mem_append_left _ (List.mem_append_left _ (List.mem_of_getElem? (i := 0) rfl)))))))) (va_Nw.use rfl (hX.2.2.2.2.1 ("java/lang/IndexOutOfBoundsException", "java/lang/IndexOutOfBoundsException") (List.mem_of_getElem? (i := 2) rfl))) hce hcv hcl ?_
      refine lv_astore (lv' := [(4, .ref q9), (0, .ref (zt_ad G 0)), (1, .int x1), (2, .int x2), (3, .int x3)]) hx hb dL_setWindow_10 hl (by decide) rfl (fun ls hl => ?_)
      refine lv_iconst (v := 1) hx hb dL_setWindow_12 (by decide) ?_
      refine vx_ret ?_; refine W.widen (k := 2) (n := 12) (Nat.le_of_ble_eq_true rfl) (Nat.le_of_ble_eq_true rfl) ?_
      exact W.iret hx hb hr (fun t ht hW => ⟨⟨_, _, rfl, (Prod.mk.inj (Option.some.inj hf)), zt_go hE hP hS zt_id2 ht hW⟩, hS.F ht⟩) hS.2.2 dL_setWindow_13
  rcases hzv1 with ⟨-, hf⟩ | ⟨h0, -⟩
  rotate_left
  · exact absurd hw.1 h0
  have hB : zt_B G u t := hB; rw [hw.2.2] at hB; have hP := zt_B.P hB ht
  refine W.cs (cells' := 2) (slots' := 12) rfl rfl ?_
  refine lv_goto (tgt := 18) hx hb dL_setWindow_7 (by decide) ?_
  refine lv_iconst (v := 0) hx hb dL_setWindow_18 (by decide) ?_
  refine vx_ret ?_; refine W.widen (k := 2) (n := 12) (Nat.le_of_ble_eq_true rfl) (Nat.le_of_ble_eq_true rfl) ?_
  exact W.iret hx hb hr (fun t ht hW => ⟨⟨_, _, rfl, (Prod.mk.inj (Option.some.inj hf)), zt_go hE hP hS zt_id2 ht hW⟩, hS.F ht⟩) hS.2.2 dL_setWindow_19

theorem zh_L_setAnchor : yL_setAnchor.cls ≠ "java/lang/invoke/MethodHandle" ∧ yL_setAnchor.cls ≠ "java/lang/invoke/VarHandle" ∧ (parseMethodDescriptor yL_setAnchor.desc).map (fun d => d.parameters.length) = some 3 := by decide +kernel
set_option maxHeartbeats 4000000 in
set_option maxRecDepth 100000 in
theorem m_L_setAnchor (l : Launch) (hl2 : l.stackTraces = false) (G : zt_G) {σ : zt_St} {x1 : Int32} {r : Int32} {σ1 : zt_St} {sz : Nat} (hf : f_L_setAnchor σ x1 = some (r, σ1)) : zt_MU l G yL_setAnchor wsL_setAnchor 7 104 1 6 [.ref (zt_ad G 0), .int x1, .ref (zt_ad G 122)] sz σ r σ1 := by
  refine vx_ofWH (cc := cL_setAnchor) (maxL := 4) (ret := (some .int)) (hh := [(0, 9, 12, 13)]) (by decide) rfl ?_
  intro p e s m args below meth c s₁ B hml hv
  have htab : c.exceptionTable.toList = tableOf [(0, 9, 12, 13)] := vx_table (x := yL_setAnchor) B (atoms_spec (ws := wsL_setAnchor) B.pre _ List.mem_cons_self)
  obtain ⟨rfl, rfl, hBB, hX⟩ := hv
  have hE := zt_B.env hBB; have hK := hE.2.1; have hP := hBB.2.1
  have hx := B.exec; have hb := B.bytes; have hr := B.returns; have hts := atoms_spec (ws := wsL_setAnchor) B.pre
  have hown : s.vm.findClass RL = some m.cls := findClass_of_methodNamed B.named
  have hlocks := B.notSynchronized
  have hS : va_S (zt_A2 G s.heap.size) s.heap s.heap [] := va_S.rf
  have hl := lv_entry ([.ref (zt_ad G 0), .int x1, .ref (zt_ad G 122)]) (n := 4) (Nat.le_of_ble_eq_true rfl)
  rw [lg_entry_eq]
  generalize (lg_sl ([.ref (zt_ad G 0), .int x1, .ref (zt_ad G 122)]) ++ List.replicate (4 - (lg_sl ([.ref (zt_ad G 0), .int x1, .ref (zt_ad G 122)])).length) Slot.unset).toArray = ls at hl ⊢
  have hl : lv_has ls 4 [(0, .ref (zt_ad G 0)), (1, .int x1), (2, .ref (zt_ad G 122))] := hl
  show W p l e (zt_RX 7 104 1 6) s m ([.ref (zt_ad G 0), .int x1, .ref (zt_ad G 122)] : List Value).toArray below meth c s.heap [] 0 0 (vx_MQ below (zt_Ui G r σ1 s.heap.size) (zt_UX G s.heap.size) ([.ref (zt_ad G 0), .int x1, .ref (zt_ad G 122)] : List Value).toArray s 1 6 (zt_A2 G s.heap.size)) (F0 m 0 ls [])
  unfold f_L_setAnchor at hf
  refine lv_aload_n hx hb dL_setAnchor_0 rfl (lv_at hl 2 rfl) ?_
  refine lv_iconst (v := 0) hx hb dL_setAnchor_1 (by decide) ?_
  refine lv_aload_n hx hb dL_setAnchor_2 rfl (lv_at hl 0 rfl) ?_
  refine lv_iload_n hx hb dL_setAnchor_3 rfl (lv_at hl 1 rfl) ?_
  obtain ⟨e1, v1, σ2, hvv1, hzv1⟩ := zt_bl_some hf
  refine vx_calli (vx_runV (As := [.int x1]) (rest := [.int 0, .ref (zt_ad G 122)]) ⟨hx, hb, hml, hown, hts⟩ (m_X8_setAnchor l hl2 G (σ := σ) hvv1) (cwV 1 hts gL_setAnchor_X8_setAnchor rfl rfl rfl zh_X8_setAnchor ⟨Nat.le_of_ble_eq_true rfl, Nat.le_of_ble_eq_true rfl⟩) ⟨zt_blind2, va_recv hK hP (ci := 7) (q0 := 0) rfl (zt_a7 (rfl : zt_kd 0 = 7)), fun U hU hW => ⟨rfl, zt_go2 hE hX hP hS hU hW⟩⟩ rfl rfl hl.1 rfl (lv_room (Nat.le_of_ble_eq_true rfl)) dL_setAnchor_4 ⟨Nat.le_of_ble_eq_true rfl, Nat.le_of_ble_eq_true rfl⟩) hS (zt_dn hS) (zt_up hS) (zt_dn hS) (fun E ce q9 u t H locs ht hvm hw hB _ _ hS hce hcv hcl => ?_) (fun r u t H locs ht hvm hw hB _ _ hS => ?_)
  · rcases hzv1 with ⟨h0, -⟩ | ⟨-, hf⟩
    · exact absurd h0 (zt_exc_ne hB.1)
    have hP := hB.2; rw [hw, ht] at hP
    rcases hB.1 with ⟨he, hEE⟩ | ⟨he, hEE⟩ | ⟨he, hEE⟩
    · subst hEE
      have hf := (if_pos he).symm.trans hf
      refine vx_catch (name := "java/lang/IllegalArgumentException") hown [] ⟨0, 9, 12, 13⟩ [] (by rw [htab]; rfl) (fun z hz => absurd hz List.not_mem_nil) (by decide) (by decide) (hts (.classLink RL 13 "java/lang/IllegalArgumentException") (List.mem_cons_of_mem _ (List.mem_append_left _ (List.mem_append_left _ (List.mem_append_left _ (List.mem_of_getElem? (i := 0) rfl)))))) (va_Nw.use rfl (hX.2.2.2.2.1 ("java/lang/IllegalArgumentException", "java/lang/IllegalArgumentException") (List.mem_of_getElem? (i := 0) rfl))) hce hcv hcl ?_
      refine lv_astore_n (lv' := [(3, .ref q9), (0, .ref (zt_ad G 0)), (1, .int x1), (2, .ref (zt_ad G 122))]) hx hb dL_setAnchor_12 rfl hl (by decide) rfl (fun ls hl => ?_)
      refine lv_iconst (v := 1) hx hb dL_setAnchor_13 (by decide) ?_
      refine vx_ret ?_; refine W.widen (k := 1) (n := 6) (Nat.le_of_ble_eq_true rfl) (Nat.le_of_ble_eq_true rfl) ?_
      exact W.iret hx hb hr (fun t ht hW => ⟨⟨_, _, rfl, (Prod.mk.inj (Option.some.inj hf)), zt_go hE hP hS zt_id2 ht hW⟩, hS.F ht⟩) hS.2.2 dL_setAnchor_14
    · exfalso
      have hf := (if_neg (show ¬ e1 = 1 by rw [he]; decide)).symm.trans hf
      exact nomatch hf
    · exfalso
      have hf := (if_neg (show ¬ e1 = 1 by rw [he]; decide)).symm.trans hf
      exact nomatch hf
  rcases hzv1 with ⟨-, hf⟩ | ⟨h0, -⟩
  rotate_left
  · exact absurd hw.1 h0
  rw [hw.2.1]; have hB : zt_B G u t := hB; rw [hw.2.2] at hB; have hP := zt_B.P hB ht
  refine W.cs (cells' := 1) (slots' := 6) rfl rfl ?_
  refine lv_i2l (v := (v1 : Int32).toInt64) hx hb dL_setAnchor_7 rfl ?_
  obtain ⟨σ3, hσ3, hf⟩ := zt_lt_some hf
  refine va_last hx hb hK hP (zt_apart2 hE.1) hS 122 3 (zt_a12 (k := 122) rfl) rfl (zt_gI_in (show zt_gI 0 1 = true by decide +kernel)) dL_setAnchor_8 (fun H locs hP _ hS => ?_)
  rw [show ((0 : Int32).toNatClampNeg) = 0 from by decide, zt_p12 (k := 122) rfl, ← hσ3] at hP
  refine lv_goto (tgt := 15) hx hb dL_setAnchor_9 (by decide) ?_
  refine lv_iconst (v := 0) hx hb dL_setAnchor_15 (by decide) ?_
  refine vx_ret ?_; refine W.widen (k := 1) (n := 6) (Nat.le_of_ble_eq_true rfl) (Nat.le_of_ble_eq_true rfl) ?_
  exact W.iret hx hb hr (fun t ht hW => ⟨⟨_, _, rfl, (Prod.mk.inj (Option.some.inj hf)), zt_go hE hP hS zt_id2 ht hW⟩, hS.F ht⟩) hS.2.2 dL_setAnchor_16

theorem zh_L_trust : yL_trust.cls ≠ "java/lang/invoke/MethodHandle" ∧ yL_trust.cls ≠ "java/lang/invoke/VarHandle" ∧ (parseMethodDescriptor yL_trust.desc).map (fun d => d.parameters.length) = some 4 := by decide +kernel
set_option maxHeartbeats 4000000 in
set_option maxRecDepth 100000 in
theorem m_L_trust (l : Launch) (hl2 : l.stackTraces = false) (G : zt_G) {σ : zt_St} {x1 : Int32} {x2 : Int32} {r : Int32} {σ1 : zt_St} {sz : Nat} (hf : f_L_trust σ x1 x2 = some (r, σ1)) : zt_MU l G yL_trust wsL_trust 8 193 1 6 [.ref (zt_ad G 0), .int x1, .int x2, .ref (zt_ad G 122)] sz σ r σ1 := by
  refine vx_ofWH (cc := cL_trust) (maxL := 5) (ret := (some .int)) (hh := [(0, 10, 13, 13)]) (by decide) rfl ?_
  intro p e s m args below meth c s₁ B hml hv
  have htab : c.exceptionTable.toList = tableOf [(0, 10, 13, 13)] := vx_table (x := yL_trust) B (atoms_spec (ws := wsL_trust) B.pre _ List.mem_cons_self)
  obtain ⟨rfl, rfl, hBB, hX⟩ := hv
  have hE := zt_B.env hBB; have hK := hE.2.1; have hP := hBB.2.1
  have hx := B.exec; have hb := B.bytes; have hr := B.returns; have hts := atoms_spec (ws := wsL_trust) B.pre
  have hown : s.vm.findClass RL = some m.cls := findClass_of_methodNamed B.named
  have hlocks := B.notSynchronized
  have hS : va_S (zt_A2 G s.heap.size) s.heap s.heap [] := va_S.rf
  have hl := lv_entry ([.ref (zt_ad G 0), .int x1, .int x2, .ref (zt_ad G 122)]) (n := 5) (Nat.le_of_ble_eq_true rfl)
  rw [lg_entry_eq]
  generalize (lg_sl ([.ref (zt_ad G 0), .int x1, .int x2, .ref (zt_ad G 122)]) ++ List.replicate (5 - (lg_sl ([.ref (zt_ad G 0), .int x1, .int x2, .ref (zt_ad G 122)])).length) Slot.unset).toArray = ls at hl ⊢
  have hl : lv_has ls 5 [(0, .ref (zt_ad G 0)), (1, .int x1), (2, .int x2), (3, .ref (zt_ad G 122))] := hl
  show W p l e (zt_RX 8 193 1 6) s m ([.ref (zt_ad G 0), .int x1, .int x2, .ref (zt_ad G 122)] : List Value).toArray below meth c s.heap [] 0 0 (vx_MQ below (zt_Ui G r σ1 s.heap.size) (zt_UX G s.heap.size) ([.ref (zt_ad G 0), .int x1, .int x2, .ref (zt_ad G 122)] : List Value).toArray s 1 6 (zt_A2 G s.heap.size)) (F0 m 0 ls [])
  unfold f_L_trust at hf
  refine lv_aload_n hx hb dL_trust_0 rfl (lv_at hl 3 rfl) ?_
  refine lv_iconst (v := 0) hx hb dL_trust_1 (by decide) ?_
  refine lv_aload_n hx hb dL_trust_2 rfl (lv_at hl 0 rfl) ?_
  refine lv_iload_n hx hb dL_trust_3 rfl (lv_at hl 1 rfl) ?_
  refine lv_iload_n hx hb dL_trust_4 rfl (lv_at hl 2 rfl) ?_
  obtain ⟨e1, v1, σ2, hvv1, hzv1⟩ := zt_bl_some hf
  refine vx_calli (vx_runV (As := [.int x1, .int x2]) (rest := [.int 0, .ref (zt_ad G 122)]) ⟨hx, hb, hml, hown, hts⟩ (m_X8_trust l hl2 G (σ := σ) hvv1) (cwV 2 hts gL_trust_X8_trust rfl rfl rfl zh_X8_trust ⟨Nat.le_of_ble_eq_true rfl, Nat.le_of_ble_eq_true rfl⟩) ⟨zt_blind2, va_recv hK hP (ci := 7) (q0 := 0) rfl (zt_a7 (rfl : zt_kd 0 = 7)), fun U hU hW => ⟨rfl, zt_go2 hE hX hP hS hU hW⟩⟩ rfl rfl hl.1 rfl (lv_room (Nat.le_of_ble_eq_true rfl)) dL_trust_5 ⟨Nat.le_of_ble_eq_true rfl, Nat.le_of_ble_eq_true rfl⟩) hS (zt_dn hS) (zt_up hS) (zt_dn hS) (fun E ce q9 u t H locs ht hvm hw hB _ _ hS hce hcv hcl => ?_) (fun r u t H locs ht hvm hw hB _ _ hS => ?_)
  · rcases hzv1 with ⟨h0, -⟩ | ⟨-, hf⟩
    · exact absurd h0 (zt_exc_ne hB.1)
    have hP := hB.2; rw [hw, ht] at hP
    rcases hB.1 with ⟨he, hEE⟩ | ⟨he, hEE⟩ | ⟨he, hEE⟩
    · subst hEE
      have hf := (if_pos he).symm.trans hf
      refine vx_catch (name := "java/lang/IllegalArgumentException") hown [] ⟨0, 10, 13, 13⟩ [] (by rw [htab]; rfl) (fun z hz => absurd hz List.not_mem_nil) (by decide) (by decide) (hts (.classLink RL 13 "java/lang/IllegalArgumentException") (List.mem_cons_of_mem _ (List.mem_append_left _ (List.mem_append_left _ (List.mem_append_left _ (List.mem_append_left _ (List.mem_append_left _ (List.mem_append_left _ (List.mem_append_left _ (List.mem_append_left _ (List.mem_append_left _ (List.mem_of_getElem? (i := 0) rfl)))))))))))) (va_Nw.use rfl (hX.2.2.2.2.1 ("java/lang/IllegalArgumentException", "java/lang/IllegalArgumentException") (List.mem_of_getElem? (i := 0) rfl))) hce hcv hcl ?_
      refine lv_astore (lv' := [(4, .ref q9), (0, .ref (zt_ad G 0)), (1, .int x1), (2, .int x2), (3, .ref (zt_ad G 122))]) hx hb dL_trust_13 hl (by decide) rfl (fun ls hl => ?_)
      refine lv_iconst (v := 1) hx hb dL_trust_15 (by decide) ?_
      refine vx_ret ?_; refine W.widen (k := 1) (n := 6) (Nat.le_of_ble_eq_true rfl) (Nat.le_of_ble_eq_true rfl) ?_
      exact W.iret hx hb hr (fun t ht hW => ⟨⟨_, _, rfl, (Prod.mk.inj (Option.some.inj hf)), zt_go hE hP hS zt_id2 ht hW⟩, hS.F ht⟩) hS.2.2 dL_trust_16
    · exfalso
      have hf := (if_neg (show ¬ e1 = 1 by rw [he]; decide)).symm.trans hf
      exact nomatch hf
    · exfalso
      have hf := (if_neg (show ¬ e1 = 1 by rw [he]; decide)).symm.trans hf
      exact nomatch hf
  rcases hzv1 with ⟨-, hf⟩ | ⟨h0, -⟩
  rotate_left
  · exact absurd hw.1 h0
  rw [hw.2.1]; have hB : zt_B G u t := hB; rw [hw.2.2] at hB; have hP := zt_B.P hB ht
  refine W.cs (cells' := 1) (slots' := 6) rfl rfl ?_
  refine lv_i2l (v := (v1 : Int32).toInt64) hx hb dL_trust_8 rfl ?_
  obtain ⟨σ3, hσ3, hf⟩ := zt_lt_some hf
  refine va_last hx hb hK hP (zt_apart2 hE.1) hS 122 3 (zt_a12 (k := 122) rfl) rfl (zt_gI_in (show zt_gI 0 1 = true by decide +kernel)) dL_trust_9 (fun H locs hP _ hS => ?_)
  rw [show ((0 : Int32).toNatClampNeg) = 0 from by decide, zt_p12 (k := 122) rfl, ← hσ3] at hP
  refine lv_goto (tgt := 17) hx hb dL_trust_10 (by decide) ?_
  refine lv_iconst (v := 0) hx hb dL_trust_17 (by decide) ?_
  refine vx_ret ?_; refine W.widen (k := 1) (n := 6) (Nat.le_of_ble_eq_true rfl) (Nat.le_of_ble_eq_true rfl) ?_
  exact W.iret hx hb hr (fun t ht hW => ⟨⟨_, _, rfl, (Prod.mk.inj (Option.some.inj hf)), zt_go hE hP hS zt_id2 ht hW⟩, hS.F ht⟩) hS.2.2 dL_trust_18

