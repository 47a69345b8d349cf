set_option maxHeartbeats 4000000 in
set_option maxRecDepth 100000 in
theorem c_M_number (l : Launch) (dC : Nat → ClassId) (dI : Nat → Nat → Nat) (h0 q1 q2 q3 q4 : Nat) (k1 k2 k3 k4 : ClassId) (g b t w : Nat → Int32) (a1 a2 a3 : Int32) (h1 : ¬ f_M_isRegister a1 = 0) (h2 : ¬ a2 < 1) (h3 : ¬ (5 : Int32) < a3) : Met l yM_number wsM_number ({ frames := 0, cells := 0, slots := 0, locals := 0 }) (va_Pc [.ref h0, .int a1, .int a2, .int a3] (fun U => va_P (dC, dI) vwCl (wsM h0 q1 q2 q3 q4 k1 k2 k3 k4 g b t w) U.heap ∧ va_K (dC, dI) vwCl [(k1, .boolean), (k2, .int), (k3, .int), (k4, .int)] U)) (va_Qi (fun (r : Int32) (_ : Unit) => r = f_M_number g b t w a1 a2 a3) (fun _ _ => True) (fun _ => False)) 0 0 (fun _ => False) := by
  refine Met.ofW (cc := prog_3_method_7_code) (maxL := 6) (ret := (some .int)) (by decide) rfl ?_
  intro p e s m args below meth c s₁ B hml hv
  obtain ⟨rfl, hP, hK⟩ := hv
  have hx := B.exec
  have hb := B.bytes
  have hr := B.returns
  have hts := fun (w : Cond) (h : w ∈ gw) => atoms_spec (ws := wsM_number) B.pre w (List.mem_cons_of_mem _ h)
  have hown : s.vm.findClass RM = some m.cls := findClass_of_methodNamed B.named
  have hlocks := B.notSynchronized
  have hS : va_S (fun _ => False) s.heap s.heap [] := va_S.rf
  have hl := lv_entry ([.ref h0, .int a1, .int a2, .int a3]) (n := 6) (Nat.le_of_ble_eq_true rfl)
  rw [lg_entry_eq]
  generalize (lg_sl ([.ref h0, .int a1, .int a2, .int a3]) ++ List.replicate (6 - (lg_sl ([.ref h0, .int a1, .int a2, .int a3])).length) Slot.unset).toArray = ls at hl ⊢
  have hl : lv_has ls 6 [(0, .ref h0), (1, .int a1), (2, .int a2), (3, .int a3)] := hl
  refine lv_iconst (v := (0 : Int32)) hx hb dM_number_0 (by decide) ?_
  refine lv_istore (lv' := [(4, .int (0 : Int32)), (0, .ref h0), (1, .int a1), (2, .int a2), (3, .int a3)]) hx hb dM_number_1 hl (by decide) rfl (fun ls hl => ?_)
  refine lv_iload_n hx hb dM_number_3 rfl (lv_at hl 3 rfl) ?_
  refine lv_istore (lv' := [(5, .int a2), (4, .int (0 : Int32)), (0, .ref h0), (1, .int a1), (2, .int a2), (3, .int a3)]) hx hb dM_number_4 hl (by decide) rfl (fun ls hl => ?_)
  refine lv_iload hx hb dM_number_6 (lv_at hl 0 rfl) ?_
  refine lv_iload_n hx hb dM_number_8 rfl (lv_at hl 5 rfl) ?_
  refine lv_icmp_gt (tgt := 38) hx hb dM_number_9 (by decide) (fun c_1 => ?_) (fun c_1 => ?_)
  · refine lv_iload hx hb dM_number_38 (lv_at hl 1 rfl) ?_
    exact W.iret (v := (0 : Int32)) hx hb hr (fun tt ht hW => ⟨⟨(0 : Int32), (), rfl, (by unfold f_M_number; rw [if_pos c_1]), trivial⟩, hS.F ht⟩) hS.2.2 dM_number_40
  · refine lv_bipush (v := (64 : Int32)) hx hb dM_number_12 (by decide) ?_
    refine lv_iload hx hb dM_number_14 (lv_at hl 1 rfl) ?_
    refine lv_imul hx hb dM_number_16 ?_
    refine lv_aload_n hx hb dM_number_17 rfl (lv_at hl 2 rfl) ?_
    refine va_get (D := (dC, dI)) (ci := 1) (v := .ref q2) (C := RM) (T := TM) (N := 4) hx hb hts iM hown hK hP 0 rfl rfl 1 (by decide) (hts _ tw_215) (fun _ h9 => h9) rfl dM_number_18 ?_
    refine lv_bipush (v := (6 : Int32)) hx hb dM_number_21 (by decide) ?_
    refine lv_iload_n hx hb dM_number_23 rfl (lv_at hl 3 rfl) ?_
    refine lv_imul hx hb dM_number_24 ?_
    refine lv_iload hx hb dM_number_25 (lv_at hl 0 rfl) ?_
    refine lv_iadd hx hb dM_number_27 ?_
    refine va_iald hx hb hK hP 2 1 rfl rfl (in_96 h1 (n_in (n_1 h2) c_1 h3)) dM_number_28 ?_
    refine lv_iadd hx hb dM_number_29 ?_
    refine lv_topi (fun x_2 ex_2 => ?_)
    refine lv_istore (lv' := [(4, .int x_2), (5, .int a2), (0, .ref h0), (1, .int a1), (2, .int a2), (3, .int a3)]) hx hb dM_number_30 hl (by decide) rfl (fun ls hl => ?_)
    obtain ⟨x_3, ex_3⟩ : ∃ y : Int32, y = (a2 + (1 : Int32)) := ⟨_, rfl⟩
    refine lv_iinc (v := x_3) (lv' := [(5, .int x_3), (4, .int x_2), (0, .ref h0), (1, .int a1), (2, .int a2), (3, .int a3)]) hx hb dM_number_32 hl (k := 1) rfl (by rw [ex_3]; rfl) (by decide) rfl (fun ls hl => ?_)
    refine lv_goto (tgt := 6) hx hb dM_number_35 (by decide) ?_
    refine lv_iload hx hb dM_number_6 (lv_at hl 0 rfl) ?_
    refine lv_iload_n hx hb dM_number_8 rfl (lv_at hl 5 rfl) ?_
    refine lv_icmp_gt (tgt := 38) hx hb dM_number_9 (by decide) (fun c_4 => ?_) (fun c_4 => ?_)
    · refine lv_iload hx hb dM_number_38 (lv_at hl 1 rfl) ?_
      exact W.iret (v := x_2) hx hb hr (fun tt ht hW => ⟨⟨x_2, (), rfl, (by subst ex_2; subst ex_3; unfold f_M_number; rw [if_neg c_1, if_pos c_4]), trivial⟩, hS.F ht⟩) hS.2.2 dM_number_40
    · refine lv_bipush (v := (64 : Int32)) hx hb dM_number_12 (by decide) ?_
      refine lv_iload hx hb dM_number_14 (lv_at hl 1 rfl) ?_
      refine lv_imul hx hb dM_number_16 ?_
      refine lv_aload_n hx hb dM_number_17 rfl (lv_at hl 2 rfl) ?_
      refine va_get (D := (dC, dI)) (ci := 1) (v := .ref q2) (C := RM) (T := TM) (N := 4) hx hb hts iM hown hK hP 0 rfl rfl 1 (by decide) (hts _ tw_215) (fun _ h9 => h9) rfl dM_number_18 ?_
      refine lv_bipush (v := (6 : Int32)) hx hb dM_number_21 (by decide) ?_
      refine lv_iload_n hx hb dM_number_23 rfl (lv_at hl 3 rfl) ?_
      refine lv_imul hx hb dM_number_24 ?_
      refine lv_iload hx hb dM_number_25 (lv_at hl 0 rfl) ?_
      refine lv_iadd hx hb dM_number_27 ?_
      refine va_iald hx hb hK hP 2 1 rfl rfl (in_96 h1 (n_in (n_s (n_1 h2) c_1 h3 ex_3) c_4 h3)) dM_number_28 ?_
      refine lv_iadd hx hb dM_number_29 ?_
      refine lv_topi (fun x_5 ex_5 => ?_)
      refine lv_istore (lv' := [(4, .int x_5), (5, .int x_3), (0, .ref h0), (1, .int a1), (2, .int a2), (3, .int a3)]) hx hb dM_number_30 hl (by decide) rfl (fun ls hl => ?_)
      obtain ⟨x_6, ex_6⟩ : ∃ y : Int32, y = (x_3 + (1 : Int32)) := ⟨_, rfl⟩
      refine lv_iinc (v := x_6) (lv' := [(5, .int x_6), (4, .int x_5), (0, .ref h0), (1, .int a1), (2, .int a2), (3, .int a3)]) hx hb dM_number_32 hl (k := 1) rfl (by rw [ex_6]; rfl) (by decide) rfl (fun ls hl => ?_)
      refine lv_goto (tgt := 6) hx hb dM_number_35 (by decide) ?_
      refine lv_iload hx hb dM_number_6 (lv_at hl 0 rfl) ?_
      refine lv_iload_n hx hb dM_number_8 rfl (lv_at hl 5 rfl) ?_
      refine lv_icmp_gt (tgt := 38) hx hb dM_number_9 (by decide) (fun c_7 => ?_) (fun c_7 => ?_)
      · refine lv_iload hx hb dM_number_38 (lv_at hl 1 rfl) ?_
        exact W.iret (v := x_5) hx hb hr (fun tt ht hW => ⟨⟨x_5, (), rfl, (by subst ex_2; subst ex_3; subst ex_5; subst ex_6; unfold f_M_number; rw [if_neg c_1, if_neg c_4, if_pos c_7]), trivial⟩, hS.F ht⟩) hS.2.2 dM_number_40
      · refine lv_bipush (v := (64 : Int32)) hx hb dM_number_12 (by decide) ?_
        refine lv_iload hx hb dM_number_14 (lv_at hl 1 rfl) ?_
        refine lv_imul hx hb dM_number_16 ?_
        refine lv_aload_n hx hb dM_number_17 rfl (lv_at hl 2 rfl) ?_
        refine va_get (D := (dC, dI)) (ci := 1) (v := .ref q2) (C := RM) (T := TM) (N := 4) hx hb hts iM hown hK hP 0 rfl rfl 1 (by decide) (hts _ tw_215) (fun _ h9 => h9) rfl dM_number_18 ?_
        refine lv_bipush (v := (6 : Int32)) hx hb dM_number_21 (by decide) ?_
        refine lv_iload_n hx hb dM_number_23 rfl (lv_at hl 3 rfl) ?_
        refine lv_imul hx hb dM_number_24 ?_
        refine lv_iload hx hb dM_number_25 (lv_at hl 0 rfl) ?_
        refine lv_iadd hx hb dM_number_27 ?_
        refine va_iald hx hb hK hP 2 1 rfl rfl (in_96 h1 (n_in (n_s (n_s (n_1 h2) c_1 h3 ex_3) c_4 h3 ex_6) c_7 h3)) dM_number_28 ?_
        refine lv_iadd hx hb dM_number_29 ?_
        refine lv_topi (fun x_8 ex_8 => ?_)
        refine lv_istore (lv' := [(4, .int x_8), (5, .int x_6), (0, .ref h0), (1, .int a1), (2, .int a2), (3, .int a3)]) hx hb dM_number_30 hl (by decide) rfl (fun ls hl => ?_)
        obtain ⟨x_9, ex_9⟩ : ∃ y : Int32, y = (x_6 + (1 : Int32)) := ⟨_, rfl⟩
        refine lv_iinc (v := x_9) (lv' := [(5, .int x_9), (4, .int x_8), (0, .ref h0), (1, .int a1), (2, .int a2), (3, .int a3)]) hx hb dM_number_32 hl (k := 1) rfl (by rw [ex_9]; rfl) (by decide) rfl (fun ls hl => ?_)
        refine lv_goto (tgt := 6) hx hb dM_number_35 (by decide) ?_
        refine lv_iload hx hb dM_number_6 (lv_at hl 0 rfl) ?_
        refine lv_iload_n hx hb dM_number_8 rfl (lv_at hl 5 rfl) ?_
        refine lv_icmp_gt (tgt := 38) hx hb dM_number_9 (by decide) (fun c_10 => ?_) (fun c_10 => ?_)
        · refine lv_iload hx hb dM_number_38 (lv_at hl 1 rfl) ?_
          exact W.iret (v := x_8) hx hb hr (fun tt ht hW => ⟨⟨x_8, (), rfl, (by subst ex_2; subst ex_3; subst ex_5; subst ex_6; subst ex_8; subst ex_9; unfold f_M_number; rw [if_neg c_1, if_neg c_4, if_neg c_7, if_pos c_10]), trivial⟩, hS.F ht⟩) hS.2.2 dM_number_40
        · refine lv_bipush (v := (64 : Int32)) hx hb dM_number_12 (by decide) ?_
          refine lv_iload hx hb dM_number_14 (lv_at hl 1 rfl) ?_
          refine lv_imul hx hb dM_number_16 ?_
          refine lv_aload_n hx hb dM_number_17 rfl (lv_at hl 2 rfl) ?_
          refine va_get (D := (dC, dI)) (ci := 1) (v := .ref q2) (C := RM) (T := TM) (N := 4) hx hb hts iM hown hK hP 0 rfl rfl 1 (by decide) (hts _ tw_215) (fun _ h9 => h9) rfl dM_number_18 ?_
          refine lv_bipush (v := (6 : Int32)) hx hb dM_number_21 (by decide) ?_
          refine lv_iload_n hx hb dM_number_23 rfl (lv_at hl 3 rfl) ?_
          refine lv_imul hx hb dM_number_24 ?_
          refine lv_iload hx hb dM_number_25 (lv_at hl 0 rfl) ?_
          refine lv_iadd hx hb dM_number_27 ?_
          refine va_iald hx hb hK hP 2 1 rfl rfl (in_96 h1 (n_in (n_s (n_s (n_s (n_1 h2) c_1 h3 ex_3) c_4 h3 ex_6) c_7 h3 ex_9) c_10 h3)) dM_number_28 ?_
          refine lv_iadd hx hb dM_number_29 ?_
          refine lv_topi (fun x_11 ex_11 => ?_)
          refine lv_istore (lv' := [(4, .int x_11), (5, .int x_9), (0, .ref h0), (1, .int a1), (2, .int a2), (3, .int a3)]) hx hb dM_number_30 hl (by decide) rfl (fun ls hl => ?_)
          obtain ⟨x_12, ex_12⟩ : ∃ y : Int32, y = (x_9 + (1 : Int32)) := ⟨_, rfl⟩
          refine lv_iinc (v := x_12) (lv' := [(5, .int x_12), (4, .int x_11), (0, .ref h0), (1, .int a1), (2, .int a2), (3, .int a3)]) hx hb dM_number_32 hl (k := 1) rfl (by rw [ex_12]; rfl) (by decide) rfl (fun ls hl => ?_)
          refine lv_goto (tgt := 6) hx hb dM_number_35 (by decide) ?_
          refine lv_iload hx hb dM_number_6 (lv_at hl 0 rfl) ?_
          refine lv_iload_n hx hb dM_number_8 rfl (lv_at hl 5 rfl) ?_
          refine lv_icmp_gt (tgt := 38) hx hb dM_number_9 (by decide) (fun c_13 => ?_) (fun c_13 => ?_)
          · refine lv_iload hx hb dM_number_38 (lv_at hl 1 rfl) ?_
            exact W.iret (v := x_11) hx hb hr (fun tt ht hW => ⟨⟨x_11, (), rfl, (by subst ex_2; subst ex_3; subst ex_5; subst ex_6; subst ex_8; subst ex_9; subst ex_11; subst ex_12; unfold f_M_number; rw [if_neg c_1, if_neg c_4, if_neg c_7, if_neg c_10, if_pos c_13]), trivial⟩, hS.F ht⟩) hS.2.2 dM_number_40
          · refine lv_bipush (v := (64 : Int32)) hx hb dM_number_12 (by decide) ?_
            refine lv_iload hx hb dM_number_14 (lv_at hl 1 rfl) ?_
            refine lv_imul hx hb dM_number_16 ?_
            refine lv_aload_n hx hb dM_number_17 rfl (lv_at hl 2 rfl) ?_
            refine va_get (D := (dC, dI)) (ci := 1) (v := .ref q2) (C := RM) (T := TM) (N := 4) hx hb hts iM hown hK hP 0 rfl rfl 1 (by decide) (hts _ tw_215) (fun _ h9 => h9) rfl dM_number_18 ?_
            refine lv_bipush (v := (6 : Int32)) hx hb dM_number_21 (by decide) ?_
            refine lv_iload_n hx hb dM_number_23 rfl (lv_at hl 3 rfl) ?_
            refine lv_imul hx hb dM_number_24 ?_
            refine lv_iload hx hb dM_number_25 (lv_at hl 0 rfl) ?_
            refine lv_iadd hx hb dM_number_27 ?_
            refine va_iald hx hb hK hP 2 1 rfl rfl (in_96 h1 (n_in (n_s (n_s (n_s (n_s (n_1 h2) c_1 h3 ex_3) c_4 h3 ex_6) c_7 h3 ex_9) c_10 h3 ex_12) c_13 h3)) dM_number_28 ?_
            refine lv_iadd hx hb dM_number_29 ?_
            refine lv_topi (fun x_14 ex_14 => ?_)
            refine lv_istore (lv' := [(4, .int x_14), (5, .int x_12), (0, .ref h0), (1, .int a1), (2, .int a2), (3, .int a3)]) hx hb dM_number_30 hl (by decide) rfl (fun ls hl => ?_)
            obtain ⟨x_15, ex_15⟩ : ∃ y : Int32, y = (x_12 + (1 : Int32)) := ⟨_, rfl⟩
            refine lv_iinc (v := x_15) (lv' := [(5, .int x_15), (4, .int x_14), (0, .ref h0), (1, .int a1), (2, .int a2), (3, .int a3)]) hx hb dM_number_32 hl (k := 1) rfl (by rw [ex_15]; rfl) (by decide) rfl (fun ls hl => ?_)
            refine lv_goto (tgt := 6) hx hb dM_number_35 (by decide) ?_
            refine lv_iload hx hb dM_number_6 (lv_at hl 0 rfl) ?_
            refine lv_iload_n hx hb dM_number_8 rfl (lv_at hl 5 rfl) ?_
            refine lv_icmp_gt (tgt := 38) hx hb dM_number_9 (by decide) (fun _ => ?_) (fun c0 => absurd (n_e (n_s (n_s (n_s (n_s (n_s (n_1 h2) c_1 h3 ex_3) c_4 h3 ex_6) c_7 h3 ex_9) c_10 h3 ex_12) c_13 h3 ex_15) h3) c0)
            refine lv_iload hx hb dM_number_38 (lv_at hl 1 rfl) ?_
            exact W.iret (v := x_14) hx hb hr (fun tt ht hW => ⟨⟨x_14, (), rfl, (by subst ex_2; subst ex_3; subst ex_5; subst ex_6; subst ex_8; subst ex_9; subst ex_11; subst ex_12; subst ex_14; subst ex_15; unfold f_M_number; rw [if_neg c_1, if_neg c_4, if_neg c_7, if_neg c_10, if_neg c_13]), trivial⟩, hS.F ht⟩) hS.2.2 dM_number_40

set_option maxHeartbeats 4000000 in
set_option maxRecDepth 100000 in
theorem c_M_value (l : Launch) (dC : Nat → ClassId) (dI : Nat → Nat → Nat) (h0 q1 q2 q3 q4 : Nat) (k1 k2 k3 k4 : ClassId) (g b t w : Nat → Int32) (a1 : Int32) : Met l yM_value wsM_value ({ frames := 1, cells := 0, slots := 0, locals := 25 }) (va_Pc [.ref h0, .int a1] (fun U => va_P (dC, dI) vwCl (wsM h0 q1 q2 q3 q4 k1 k2 k3 k4 g b t w) U.heap ∧ va_K (dC, dI) vwCl [(k1, .boolean), (k2, .int), (k3, .int), (k4, .int)] U)) (va_Qi (fun (r : Int32) (_ : Unit) => r = f_M_value g b t w a1) (fun _ _ => True) (fun _ => False)) 0 0 (fun _ => False) := by
  refine Met.ofW (cc := prog_3_method_8_code) (maxL := 3) (ret := (some .int)) (by decide) rfl ?_
  intro p e s m args below meth c s₁ B hml hv
  obtain ⟨rfl, hP, hK⟩ := hv
  have hx := B.exec
  have hb := B.bytes
  have hr := B.returns
  have hts := fun (w : Cond) (h : w ∈ gw) => atoms_spec (ws := wsM_value) B.pre w (List.mem_cons_of_mem _ h)
  have hown : s.vm.findClass RM = some m.cls := findClass_of_methodNamed B.named
  have hlocks := B.notSynchronized
  have hS : va_S (fun _ => False) s.heap s.heap [] := va_S.rf
  have hl := lv_entry ([.ref h0, .int a1]) (n := 3) (Nat.le_of_ble_eq_true rfl)
  rw [lg_entry_eq]
  generalize (lg_sl ([.ref h0, .int a1]) ++ List.replicate (3 - (lg_sl ([.ref h0, .int a1])).length) Slot.unset).toArray = ls at hl ⊢
  have hl : lv_has ls 3 [(0, .ref h0), (1, .int a1)] := hl
  refine lv_iload_n hx hb dM_value_0 rfl (lv_at hl 1 rfl) ?_
  refine kk_callP (va_runS (As := [.int a1]) (rest := []) ⟨hx, hb, hml, hown, hts⟩ (c_M_isRegister l a1) (va_cwS 1 hts (gS tw_233 tw_234 tw_2 tw_235) rfl rfl rfl (by decide +kernel) ⟨Nat.le_of_ble_eq_true rfl, Nat.le_of_ble_eq_true rfl⟩) ⟨fun _ _ _ _ q => q, fun _ _ _ => ⟨rfl, trivial⟩⟩ rfl rfl hl.1 rfl (lv_room (Nat.le_of_ble_eq_true rfl)) dM_value_1 ⟨Nat.le_of_ble_eq_true rfl, Nat.le_of_ble_eq_true rfl⟩) hS hP (fun H locs hS hP => ?_)
  refine lv_if_ne (tgt := 10) hx hb dM_value_4 (by decide) (fun c_1 => ?_) (fun c_1 => ?_)
  · refine lv_aload_n hx hb dM_value_10 rfl (lv_at hl 0 rfl) ?_
    refine lv_iload_n hx hb dM_value_11 rfl (lv_at hl 1 rfl) ?_
    refine lv_iconst (v := (1 : Int32)) hx hb dM_value_12 (by decide) ?_
    refine lv_iconst (v := (5 : Int32)) hx hb dM_value_13 (by decide) ?_
    refine kk_callP (va_runV (As := [.int a1, .int (1 : Int32), .int (5 : Int32)]) (rest := []) ⟨hx, hb, hml, hown, hts⟩ (c_M_number l dC dI h0 q1 q2 q3 q4 k1 k2 k3 k4 g b t w a1 (1 : Int32) (5 : Int32) c_1 (by decide) (by decide)) (cwV 3 hts (gV tw_242 tw_244 tw_p0 tw_2 tw_245) rfl rfl rfl (by decide +kernel) ⟨Nat.le_of_ble_eq_true rfl, Nat.le_of_ble_eq_true rfl⟩) ⟨fun a U g mk q => ⟨q.1, q.2.1, va_K.moved (u := U) (U := U.calling g mk a) (Vm.Alike.refl U.vm) q.2.2⟩, va_recv hK hP (ci := 1) (q0 := 0) rfl rfl, fun U hU hW => ⟨rfl, by rw [hU]; exact hP, va_K.moved hW.alike hK⟩⟩ rfl rfl hl.1 rfl (lv_room (Nat.le_of_ble_eq_true rfl)) dM_value_14 ⟨Nat.le_of_ble_eq_true rfl, Nat.le_of_ble_eq_true rfl⟩) hS hP (fun H locs hS hP => ?_)
    refine lv_topi (fun x_2 ex_2 => ?_)
    refine lv_istore_n (lv' := [(2, .int x_2), (0, .ref h0), (1, .int a1)]) hx hb dM_value_17 rfl hl (by decide) rfl (fun ls hl => ?_)
    refine lv_aload_n hx hb dM_value_18 rfl (lv_at hl 1 rfl) ?_
    refine va_get (D := (dC, dI)) (ci := 1) (v := .ref q1) (C := RM) (T := TM) (N := 4) hx hb hts iM hown hK hP 0 rfl rfl 0 (by decide) (hts _ tw_214) (fun _ h9 => h9) rfl dM_value_19 ?_
    refine lv_iload_n hx hb dM_value_22 rfl (lv_at hl 2 rfl) ?_
    refine va_zald hx hb hK hP 1 0 rfl rfl (in_M c_1) dM_value_23 ?_
    refine lv_if_ne (tgt := 31) hx hb dM_value_24 (by decide) (fun c_3 => ?_) (fun c_3 => ?_)
    · refine lv_iload_n hx hb dM_value_31 rfl (lv_at hl 0 rfl) ?_
      refine lv_if_ne (tgt := 40) hx hb dM_value_32 (by decide) (fun c_4 => ?_) (fun c_4 => ?_)
      · refine lv_iload_n hx hb dM_value_40 rfl (lv_at hl 0 rfl) ?_
        refine lv_ineg hx hb dM_value_41 ?_
        exact W.iret (v := (-x_2)) hx hb hr (fun tt ht hW => ⟨⟨(-x_2), (), rfl, (by subst ex_2; unfold f_M_value; rw [if_neg c_1, if_neg c_3, if_neg c_4]), trivial⟩, hS.F ht⟩) hS.2.2 dM_value_42
      · refine lv_ldc (v := (-2147483648 : Int32)) hx hb hown (hts _ tw_246) dM_value_35 ?_
        refine lv_goto (tgt := 42) hx hb dM_value_37 (by decide) ?_
        exact W.iret (v := (-2147483648 : Int32)) hx hb hr (fun tt ht hW => ⟨⟨(-2147483648 : Int32), (), rfl, (by subst ex_2; unfold f_M_value; rw [if_neg c_1, if_neg c_3, if_pos c_4]), trivial⟩, hS.F ht⟩) hS.2.2 dM_value_42
    · refine lv_iload_n hx hb dM_value_27 rfl (lv_at hl 0 rfl) ?_
      refine lv_goto (tgt := 42) hx hb dM_value_28 (by decide) ?_
      exact W.iret (v := x_2) hx hb hr (fun tt ht hW => ⟨⟨x_2, (), rfl, (by subst ex_2; unfold f_M_value; rw [if_neg c_1, if_pos c_3]), trivial⟩, hS.F ht⟩) hS.2.2 dM_value_42
  · refine lv_ldc (v := (2147483647 : Int32)) hx hb hown (hts _ tw_241) dM_value_7 ?_
    exact W.iret (v := (2147483647 : Int32)) hx hb hr (fun tt ht hW => ⟨⟨(2147483647 : Int32), (), rfl, (by unfold f_M_value; rw [if_pos c_1]), trivial⟩, hS.F ht⟩) hS.2.2 dM_value_9

set_option maxHeartbeats 4000000 in
set_option maxRecDepth 100000 in
theorem c_M_byteOf (l : Launch) (dC : Nat → ClassId) (dI : Nat → Nat → Nat) (h0 q1 q2 q3 q4 : Nat) (k1 k2 k3 k4 : ClassId) (g b t w : Nat → Int32) (a1 a2 : Int32) : Met l yM_byteOf wsM_byteOf ({ frames := 1, cells := 0, slots := 0, locals := 20 }) (va_Pc [.ref h0, .int a1, .int a2] (fun U => va_P (dC, dI) vwCl (wsM h0 q1 q2 q3 q4 k1 k2 k3 k4 g b t w) U.heap ∧ va_K (dC, dI) vwCl [(k1, .boolean), (k2, .int), (k3, .int), (k4, .int)] U)) (va_Qi (fun (r : Int32) (_ : Unit) => r = f_M_byteOf g b t w a1 a2) (fun _ _ => True) (fun _ => False)) 0 0 (fun _ => False) := by
  refine Met.ofW (cc := prog_3_method_9_code) (maxL := 3) (ret := (some .int)) (by decide) rfl ?_
  intro p e s m args below meth c s₁ B hml hv
  obtain ⟨rfl, hP, hK⟩ := hv
  have hx := B.exec
  have hb := B.bytes
  have hr := B.returns
  have hts := fun (w : Cond) (h : w ∈ gw) => atoms_spec (ws := wsM_byteOf) B.pre w (List.mem_cons_of_mem _ h)
  have hown : s.vm.findClass RM = some m.cls := findClass_of_methodNamed B.named
  have hlocks := B.notSynchronized
  have hS : va_S (fun _ => False) s.heap s.heap [] := va_S.rf
  have hl := lv_entry ([.ref h0, .int a1, .int a2]) (n := 3) (Nat.le_of_ble_eq_true rfl)
  rw [lg_entry_eq]
  generalize (lg_sl ([.ref h0, .int a1, .int a2]) ++ List.replicate (3 - (lg_sl ([.ref h0, .int a1, .int a2])).length) Slot.unset).toArray = ls at hl ⊢
  have hl : lv_has ls 3 [(0, .ref h0), (1, .int a1), (2, .int a2)] := hl
  refine lv_iload_n hx hb dM_byteOf_0 rfl (lv_at hl 1 rfl) ?_
  refine kk_callP (va_runS (As := [.int a1]) (rest := []) ⟨hx, hb, hml, hown, hts⟩ (c_M_isRegister l a1) (va_cwS 1 hts (gS tw_233 tw_234 tw_2 tw_235) rfl rfl rfl (by decide +kernel) ⟨Nat.le_of_ble_eq_true rfl, Nat.le_of_ble_eq_true rfl⟩) ⟨fun _ _ _ _ q => q, fun _ _ _ => ⟨rfl, trivial⟩⟩ rfl rfl hl.1 rfl (lv_room (Nat.le_of_ble_eq_true rfl)) dM_byteOf_1 ⟨Nat.le_of_ble_eq_true rfl, Nat.le_of_ble_eq_true rfl⟩) hS hP (fun H locs hS hP => ?_)
  refine lv_if_eq (tgt := 16) hx hb dM_byteOf_4 (by decide) (fun c_1 => ?_) (fun c_1 => ?_)
  · refine lv_iconst (v := (-1 : Int32)) hx hb dM_byteOf_16 (by decide) ?_
    exact W.iret (v := (-1 : Int32)) hx hb hr (fun tt ht hW => ⟨⟨(-1 : Int32), (), rfl, (by unfold f_M_byteOf; rw [if_pos c_1]), trivial⟩, hS.F ht⟩) hS.2.2 dM_byteOf_17
  · refine lv_iload_n hx hb dM_byteOf_7 rfl (lv_at hl 2 rfl) ?_
    refine lv_if_lt (tgt := 16) hx hb dM_byteOf_8 (by decide) (fun c_2 => ?_) (fun c_2 => ?_)
    · refine lv_iconst (v := (-1 : Int32)) hx hb dM_byteOf_16 (by decide) ?_
      exact W.iret (v := (-1 : Int32)) hx hb hr (fun tt ht hW => ⟨⟨(-1 : Int32), (), rfl, (by unfold f_M_byteOf; rw [if_neg c_1, if_pos c_2]), trivial⟩, hS.F ht⟩) hS.2.2 dM_byteOf_17
    · refine lv_iload_n hx hb dM_byteOf_11 rfl (lv_at hl 2 rfl) ?_
      refine lv_iconst (v := (5 : Int32)) hx hb dM_byteOf_12 (by decide) ?_
      refine lv_icmp_le (tgt := 18) hx hb dM_byteOf_13 (by decide) (fun c_3 => ?_) (fun c_3 => ?_)
      · refine lv_iload_n hx hb dM_byteOf_18 rfl (lv_at hl 2 rfl) ?_
        refine lv_if_le (tgt := 36) hx hb dM_byteOf_19 (by decide) (fun c_4 => ?_) (fun c_4 => ?_)
        · refine lv_aload_n hx hb dM_byteOf_36 rfl (lv_at hl 0 rfl) ?_
          refine va_get (D := (dC, dI)) (ci := 1) (v := .ref q1) (C := RM) (T := TM) (N := 4) hx hb hts iM hown hK hP 0 rfl rfl 0 (by decide) (hts _ tw_214) (fun _ h9 => h9) rfl dM_byteOf_37 ?_
          refine lv_iload_n hx hb dM_byteOf_40 rfl (lv_at hl 1 rfl) ?_
          refine va_zald hx hb hK hP 1 0 rfl rfl (in_M c_1) dM_byteOf_41 ?_
          refine lv_if_eq (tgt := 49) hx hb dM_byteOf_42 (by decide) (fun c_5 => ?_) (fun c_5 => ?_)
          · refine lv_iconst (v := (0 : Int32)) hx hb dM_byteOf_49 (by decide) ?_
            exact W.iret (v := (0 : Int32)) hx hb hr (fun tt ht hW => ⟨⟨(0 : Int32), (), rfl, (by unfold f_M_byteOf; rw [if_neg c_1, if_neg c_2, if_pos c_3, if_pos c_4, if_pos c_5]), trivial⟩, hS.F ht⟩) hS.2.2 dM_byteOf_50
          · refine lv_iconst (v := (1 : Int32)) hx hb dM_byteOf_45 (by decide) ?_
            refine lv_goto (tgt := 50) hx hb dM_byteOf_46 (by decide) ?_
            exact W.iret (v := (1 : Int32)) hx hb hr (fun tt ht hW => ⟨⟨(1 : Int32), (), rfl, (by unfold f_M_byteOf; rw [if_neg c_1, if_neg c_2, if_pos c_3, if_pos c_4, if_neg c_5]), trivial⟩, hS.F ht⟩) hS.2.2 dM_byteOf_50
        · refine lv_aload_n hx hb dM_byteOf_22 rfl (lv_at hl 0 rfl) ?_
          refine va_get (D := (dC, dI)) (ci := 1) (v := .ref q2) (C := RM) (T := TM) (N := 4) hx hb hts iM hown hK hP 0 rfl rfl 1 (by decide) (hts _ tw_215) (fun _ h9 => h9) rfl dM_byteOf_23 ?_
          refine lv_bipush (v := (6 : Int32)) hx hb dM_byteOf_26 (by decide) ?_
          refine lv_iload_n hx hb dM_byteOf_28 rfl (lv_at hl 1 rfl) ?_
          refine lv_imul hx hb dM_byteOf_29 ?_
          refine lv_iload_n hx hb dM_byteOf_30 rfl (lv_at hl 2 rfl) ?_
          refine lv_iadd hx hb dM_byteOf_31 ?_
          refine va_iald hx hb hK hP 2 1 rfl rfl (in_96 c_1 (in_6 c_2 c_3)) dM_byteOf_32 ?_
          refine lv_goto (tgt := 50) hx hb dM_byteOf_33 (by decide) ?_
          exact W.iret (v := (b (((6 : Int32) * a1) + a2).toNatClampNeg)) hx hb hr (fun tt ht hW => ⟨⟨(b (((6 : Int32) * a1) + a2).toNatClampNeg), (), rfl, (by unfold f_M_byteOf; rw [if_neg c_1, if_neg c_2, if_pos c_3, if_neg c_4]), trivial⟩, hS.F ht⟩) hS.2.2 dM_byteOf_50
      · refine lv_iconst (v := (-1 : Int32)) hx hb dM_byteOf_16 (by decide) ?_
        exact W.iret (v := (-1 : Int32)) hx hb hr (fun tt ht hW => ⟨⟨(-1 : Int32), (), rfl, (by unfold f_M_byteOf; rw [if_neg c_1, if_neg c_2, if_neg c_3]), trivial⟩, hS.F ht⟩) hS.2.2 dM_byteOf_17

set_option maxHeartbeats 4000000 in
set_option maxRecDepth 100000 in
theorem c_M_compare (l : Launch) (dC : Nat → ClassId) (dI : Nat → Nat → Nat) (h0 q1 q2 q3 q4 : Nat) (k1 k2 k3 k4 : ClassId) (g b t w : Nat → Int32) (a1 a2 a3 : Int32) : Met l yM_compare wsM_compare ({ frames := 2, cells := 0, slots := 0, locals := 43 }) (va_Pc [.ref h0, .int a1, .int a2, .int a3] (fun U => va_P (dC, dI) vwCl (wsM h0 q1 q2 q3 q4 k1 k2 k3 k4 g b t w) U.heap ∧ va_K (dC, dI) vwCl [(k1, .boolean), (k2, .int), (k3, .int), (k4, .int)] U)) (va_Qi (fun (r : Int32) (_ : Unit) => r = f_M_compare g b t w a1 a2 a3) (fun _ _ => True) (fun _ => False)) 0 0 (fun _ => False) := by
  refine Met.ofW (cc := prog_3_method_14_code) (maxL := 6) (ret := (some .int)) (by decide) rfl ?_
  intro p e s m args below meth c s₁ B hml hv
  obtain ⟨rfl, hP, hK⟩ := hv
  have hx := B.exec
  have hb := B.bytes
  have hr := B.returns
  have hts := fun (w : Cond) (h : w ∈ gw) => atoms_spec (ws := wsM_compare) B.pre w (List.mem_cons_of_mem _ h)
  have hown : s.vm.findClass RM = some m.cls := findClass_of_methodNamed B.named
  have hlocks := B.notSynchronized
  have hS : va_S (fun _ => False) s.heap s.heap [] := va_S.rf
  have hl := lv_entry ([.ref h0, .int a1, .int a2, .int a3]) (n := 6) (Nat.le_of_ble_eq_true rfl)
  rw [lg_entry_eq]
  generalize (lg_sl ([.ref h0, .int a1, .int a2, .int a3]) ++ List.replicate (6 - (lg_sl ([.ref h0, .int a1, .int a2, .int a3])).length) Slot.unset).toArray = ls at hl ⊢
  have hl : lv_has ls 6 [(0, .ref h0), (1, .int a1), (2, .int a2), (3, .int a3)] := hl
  refine lv_aload_n hx hb dM_compare_0 rfl (lv_at hl 0 rfl) ?_
  refine lv_iload_n hx hb dM_compare_1 rfl (lv_at hl 1 rfl) ?_
  refine lv_iload_n hx hb dM_compare_2 rfl (lv_at hl 2 rfl) ?_
  refine lv_iload_n hx hb dM_compare_3 rfl (lv_at hl 3 rfl) ?_
  refine kk_callP (va_runV (As := [.int a1, .int a2, .int a3]) (rest := []) ⟨hx, hb, hml, hown, hts⟩ (c_M_may l h0 a1 a2 a3) (cwV 3 hts (gV tw_255 tw_257 tw_p1 tw_2 tw_258) rfl rfl rfl (by decide +kernel) ⟨Nat.le_of_ble_eq_true rfl, Nat.le_of_ble_eq_true rfl⟩) ⟨fun _ _ _ _ q => q, va_recv hK hP (ci := 1) (q0 := 0) rfl rfl, fun _ _ _ => ⟨rfl, trivial⟩⟩ rfl rfl hl.1 rfl (lv_room (Nat.le_of_ble_eq_true rfl)) dM_compare_4 ⟨Nat.le_of_ble_eq_true rfl, Nat.le_of_ble_eq_true rfl⟩) hS hP (fun H locs hS hP => ?_)
  refine lv_if_ne (tgt := 13) hx hb dM_compare_7 (by decide) (fun c_1 => ?_) (fun c_1 => ?_)
  · refine lv_aload_n hx hb dM_compare_13 rfl (lv_at hl 0 rfl) ?_
    refine lv_iload_n hx hb dM_compare_14 rfl (lv_at hl 1 rfl) ?_
    refine lv_iload_n hx hb dM_compare_15 rfl (lv_at hl 3 rfl) ?_
    refine kk_callP (va_runS (As := [.int a3]) (rest := [.int a1, .ref h0]) ⟨hx, hb, hml, hown, hts⟩ (c_M_first l a3) (va_cwS 1 hts (gS tw_262 tw_263 tw_2 tw_264) rfl rfl rfl (by decide +kernel) ⟨Nat.le_of_ble_eq_true rfl, Nat.le_of_ble_eq_true rfl⟩) ⟨fun _ _ _ _ q => q, fun _ _ _ => ⟨rfl, trivial⟩⟩ rfl rfl hl.1 rfl (lv_room (Nat.le_of_ble_eq_true rfl)) dM_compare_16 ⟨Nat.le_of_ble_eq_true rfl, Nat.le_of_ble_eq_true rfl⟩) hS hP (fun H locs hS hP => ?_)
    refine lv_iload_n hx hb dM_compare_19 rfl (lv_at hl 3 rfl) ?_
    refine lv_bipush (v := (8 : Int32)) hx hb dM_compare_20 (by decide) ?_
    refine lv_irem hx hb dM_compare_22 (by decide) ?_
    refine kk_callP (va_runV (As := [.int a1, .int (f_M_first a3), .int (a3 - a3 / (8 : Int32) * (8 : Int32))]) (rest := []) ⟨hx, hb, hml, hown, hts⟩ (c_M_number l dC dI h0 q1 q2 q3 q4 k1 k2 k3 k4 g b t w a1 (f_M_first a3) (a3 - a3 / (8 : Int32) * (8 : Int32)) (may_1 c_1) (may_f c_1) (may_l c_1)) (cwV 3 hts (gV tw_242 tw_244 tw_p0 tw_2 tw_245) rfl rfl rfl (by decide +kernel) ⟨Nat.le_of_ble_eq_true rfl, Nat.le_of_ble_eq_true rfl⟩) ⟨fun a U g mk q => ⟨q.1, q.2.1, va_K.moved (u := U) (U := U.calling g mk a) (Vm.Alike.refl U.vm) q.2.2⟩, va_recv hK hP (ci := 1) (q0 := 0) rfl rfl, fun U hU hW => ⟨rfl, by rw [hU]; exact hP, va_K.moved hW.alike hK⟩⟩ rfl rfl hl.1 rfl (lv_room (Nat.le_of_ble_eq_true rfl)) dM_compare_23 ⟨Nat.le_of_ble_eq_true rfl, Nat.le_of_ble_eq_true rfl⟩) hS hP (fun H locs hS hP => ?_)
    refine lv_topi (fun x_2 ex_2 => ?_)
    refine lv_istore (lv' := [(4, .int x_2), (0, .ref h0), (1, .int a1), (2, .int a2), (3, .int a3)]) hx hb dM_compare_26 hl (by decide) rfl (fun ls hl => ?_)
    refine lv_aload_n hx hb dM_compare_28 rfl (lv_at hl 1 rfl) ?_
    refine lv_iload_n hx hb dM_compare_29 rfl (lv_at hl 3 rfl) ?_
    refine lv_iload_n hx hb dM_compare_30 rfl (lv_at hl 4 rfl) ?_
    refine kk_callP (va_runS (As := [.int a3]) (rest := [.int a2, .ref h0]) ⟨hx, hb, hml, hown, hts⟩ (c_M_first l a3) (va_cwS 1 hts (gS tw_262 tw_263 tw_2 tw_264) rfl rfl rfl (by decide +kernel) ⟨Nat.le_of_ble_eq_true rfl, Nat.le_of_ble_eq_true rfl⟩) ⟨fun _ _ _ _ q => q, fun _ _ _ => ⟨rfl, trivial⟩⟩ rfl rfl hl.1 rfl (lv_room (Nat.le_of_ble_eq_true rfl)) dM_compare_31 ⟨Nat.le_of_ble_eq_true rfl, Nat.le_of_ble_eq_true rfl⟩) hS hP (fun H locs hS hP => ?_)
    refine lv_iload_n hx hb dM_compare_34 rfl (lv_at hl 4 rfl) ?_
    refine lv_bipush (v := (8 : Int32)) hx hb dM_compare_35 (by decide) ?_
    refine lv_irem hx hb dM_compare_37 (by decide) ?_
    refine kk_callP (va_runV (As := [.int a2, .int (f_M_first a3), .int (a3 - a3 / (8 : Int32) * (8 : Int32))]) (rest := []) ⟨hx, hb, hml, hown, hts⟩ (c_M_number l dC dI h0 q1 q2 q3 q4 k1 k2 k3 k4 g b t w a2 (f_M_first a3) (a3 - a3 / (8 : Int32) * (8 : Int32)) (may_2 c_1) (may_f c_1) (may_l c_1)) (cwV 3 hts (gV tw_242 tw_244 tw_p0 tw_2 tw_245) rfl rfl rfl (by decide +kernel) ⟨Nat.le_of_ble_eq_true rfl, Nat.le_of_ble_eq_true rfl⟩) ⟨fun a U g mk q => ⟨q.1, q.2.1, va_K.moved (u := U) (U := U.calling g mk a) (Vm.Alike.refl U.vm) q.2.2⟩, va_recv hK hP (ci := 1) (q0 := 0) rfl rfl, fun U hU hW => ⟨rfl, by rw [hU]; exact hP, va_K.moved hW.alike hK⟩⟩ rfl rfl hl.1 rfl (lv_room (Nat.le_of_ble_eq_true rfl)) dM_compare_38 ⟨Nat.le_of_ble_eq_true rfl, Nat.le_of_ble_eq_true rfl⟩) hS hP (fun H locs hS hP => ?_)
    refine lv_topi (fun x_3 ex_3 => ?_)
    refine lv_istore (lv' := [(5, .int x_3), (4, .int x_2), (0, .ref h0), (1, .int a1), (2, .int a2), (3, .int a3)]) hx hb dM_compare_41 hl (by decide) rfl (fun ls hl => ?_)
    refine kk_mrg (pc' := 66) (ls' := ls) (rest' := []) (x := (if (8 : Int32) ≤ a3 then x_2 else (if (g a1.toNatClampNeg) = 0 then x_2 else (-x_2)))) (fun hk_4 => ?_) (fun v_7 ev_7 => ?_)
    · refine lv_iload_n hx hb dM_compare_43 rfl (lv_at hl 5 rfl) ?_
      refine lv_bipush (v := (8 : Int32)) hx hb dM_compare_44 (by decide) ?_
      refine lv_icmp_ge (tgt := 64) hx hb dM_compare_46 (by decide) (fun c_5 => ?_) (fun c_5 => ?_)
      · refine lv_iload hx hb dM_compare_64 (lv_at hl 1 rfl) ?_
        exact hk_4 _ (by rw [if_pos c_5])
      · refine lv_aload_n hx hb dM_compare_49 rfl (lv_at hl 2 rfl) ?_
        refine va_get (D := (dC, dI)) (ci := 1) (v := .ref q1) (C := RM) (T := TM) (N := 4) hx hb hts iM hown hK hP 0 rfl rfl 0 (by decide) (hts _ tw_214) (fun _ h9 => h9) rfl dM_compare_50 ?_
        refine lv_iload_n hx hb dM_compare_53 rfl (lv_at hl 3 rfl) ?_
        refine va_zald hx hb hK hP 1 0 rfl rfl (in_M (may_1 c_1)) dM_compare_54 ?_
        refine lv_if_eq (tgt := 64) hx hb dM_compare_55 (by decide) (fun c_6 => ?_) (fun c_6 => ?_)
        · refine lv_iload hx hb dM_compare_64 (lv_at hl 1 rfl) ?_
          exact hk_4 _ (by rw [if_neg c_5, if_pos c_6])
        · refine lv_iload hx hb dM_compare_58 (lv_at hl 1 rfl) ?_
          refine lv_ineg hx hb dM_compare_60 ?_
          refine lv_goto (tgt := 66) hx hb dM_compare_61 (by decide) ?_
          exact hk_4 _ (by rw [if_neg c_5, if_neg c_6])
    refine lv_istore (lv' := [(4, .int v_7), (5, .int x_3), (0, .ref h0), (1, .int a1), (2, .int a2), (3, .int a3)]) hx hb dM_compare_66 hl (by decide) rfl (fun ls hl => ?_)
    refine kk_mrg (pc' := 91) (ls' := ls) (rest' := []) (x := (if (8 : Int32) ≤ a3 then x_3 else (if (g a2.toNatClampNeg) = 0 then x_3 else (-x_3)))) (fun hk_8 => ?_) (fun v_11 ev_11 => ?_)
    · refine lv_iload_n hx hb dM_compare_68 rfl (lv_at hl 5 rfl) ?_
      refine lv_bipush (v := (8 : Int32)) hx hb dM_compare_69 (by decide) ?_
      refine lv_icmp_ge (tgt := 89) hx hb dM_compare_71 (by decide) (fun c_9 => ?_) (fun c_9 => ?_)
      · refine lv_iload hx hb dM_compare_89 (lv_at hl 1 rfl) ?_
        exact hk_8 _ (by rw [if_pos c_9])
      · refine lv_aload_n hx hb dM_compare_74 rfl (lv_at hl 2 rfl) ?_
        refine va_get (D := (dC, dI)) (ci := 1) (v := .ref q1) (C := RM) (T := TM) (N := 4) hx hb hts iM hown hK hP 0 rfl rfl 0 (by decide) (hts _ tw_214) (fun _ h9 => h9) rfl dM_compare_75 ?_
        refine lv_iload_n hx hb dM_compare_78 rfl (lv_at hl 4 rfl) ?_
        refine va_zald hx hb hK hP 1 0 rfl rfl (in_M (may_2 c_1)) dM_compare_79 ?_
        refine lv_if_eq (tgt := 89) hx hb dM_compare_80 (by decide) (fun c_10 => ?_) (fun c_10 => ?_)
        · refine lv_iload hx hb dM_compare_89 (lv_at hl 1 rfl) ?_
          exact hk_8 _ (by rw [if_neg c_9, if_pos c_10])
        · refine lv_iload hx hb dM_compare_83 (lv_at hl 1 rfl) ?_
          refine lv_ineg hx hb dM_compare_85 ?_
          refine lv_goto (tgt := 91) hx hb dM_compare_86 (by decide) ?_
          exact hk_8 _ (by rw [if_neg c_9, if_neg c_10])
    refine lv_istore (lv' := [(5, .int v_11), (4, .int v_7), (0, .ref h0), (1, .int a1), (2, .int a2), (3, .int a3)]) hx hb dM_compare_91 hl (by decide) rfl (fun ls hl => ?_)
    refine lv_iload hx hb dM_compare_93 (lv_at hl 1 rfl) ?_
    refine lv_iload hx hb dM_compare_95 (lv_at hl 0 rfl) ?_
    refine lv_icmp_ge (tgt := 104) hx hb dM_compare_97 (by decide) (fun c_12 => ?_) (fun c_12 => ?_)
    · refine lv_iload hx hb dM_compare_104 (lv_at hl 1 rfl) ?_
      refine lv_iload hx hb dM_compare_106 (lv_at hl 0 rfl) ?_
      refine lv_icmp_le (tgt := 115) hx hb dM_compare_108 (by decide) (fun c_13 => ?_) (fun c_13 => ?_)
      · refine lv_iconst (v := (0 : Int32)) hx hb dM_compare_115 (by decide) ?_
        exact W.iret (v := (0 : Int32)) hx hb hr (fun tt ht hW => ⟨⟨(0 : Int32), (), rfl, (by subst ex_2; subst ex_3; subst ev_7; subst ev_11; unfold f_M_compare; rw [if_neg c_1, if_pos c_12, if_pos c_13]), trivial⟩, hS.F ht⟩) hS.2.2 dM_compare_116
      · refine lv_iconst (v := (1 : Int32)) hx hb dM_compare_111 (by decide) ?_
        refine lv_goto (tgt := 116) hx hb dM_compare_112 (by decide) ?_
        exact W.iret (v := (1 : Int32)) hx hb hr (fun tt ht hW => ⟨⟨(1 : Int32), (), rfl, (by subst ex_2; subst ex_3; subst ev_7; subst ev_11; unfold f_M_compare; rw [if_neg c_1, if_pos c_12, if_neg c_13]), trivial⟩, hS.F ht⟩) hS.2.2 dM_compare_116
    · refine lv_iconst (v := (-1 : Int32)) hx hb dM_compare_100 (by decide) ?_
      refine lv_goto (tgt := 116) hx hb dM_compare_101 (by decide) ?_
      exact W.iret (v := (-1 : Int32)) hx hb hr (fun tt ht hW => ⟨⟨(-1 : Int32), (), rfl, (by subst ex_2; subst ex_3; subst ev_7; subst ev_11; unfold f_M_compare; rw [if_neg c_1, if_neg c_12]), trivial⟩, hS.F ht⟩) hS.2.2 dM_compare_116
  · refine lv_bipush (v := (-2 : Int32)) hx hb dM_compare_10 (by decide) ?_
    exact W.iret (v := (-2 : Int32)) hx hb hr (fun tt ht hW => ⟨⟨(-2 : Int32), (), rfl, (by unfold f_M_compare; rw [if_pos c_1]), trivial⟩, hS.F ht⟩) hS.2.2 dM_compare_12

set_option maxHeartbeats 4000000 in
set_option maxRecDepth 100000 in
theorem c_M_letter (l : Launch) (dC : Nat → ClassId) (dI : Nat → Nat → Nat) (h0 q1 q2 q3 q4 : Nat) (k1 k2 k3 k4 : ClassId) (g b t w : Nat → Int32) (a1 : Int32) : Met l yM_letter wsM_letter ({ frames := 0, cells := 0, slots := 0, locals := 0 }) (va_Pc [.ref h0, .int a1] (fun U => va_P (dC, dI) vwCl (wsM h0 q1 q2 q3 q4 k1 k2 k3 k4 g b t w) U.heap ∧ va_K (dC, dI) vwCl [(k1, .boolean), (k2, .int), (k3, .int), (k4, .int)] U)) (va_Qi (fun (r : Int32) (_ : Unit) => r = f_M_letter g b t w a1) (fun _ _ => True) (fun _ => False)) 0 0 (fun _ => False) := by
  refine Met.ofW (cc := prog_3_method_16_code) (maxL := 2) (ret := (some .int)) (by decide) rfl ?_
  intro p e s m args below meth c s₁ B hml hv
  obtain ⟨rfl, hP, hK⟩ := hv
  have hx := B.exec
  have hb := B.bytes
  have hr := B.returns
  have hts := fun (w : Cond) (h : w ∈ gw) => atoms_spec (ws := wsM_letter) B.pre w (List.mem_cons_of_mem _ h)
  have hown : s.vm.findClass RM = some m.cls := findClass_of_methodNamed B.named
  have hlocks := B.notSynchronized
  have hS : va_S (fun _ => False) s.heap s.heap [] := va_S.rf
  have hl := lv_entry ([.ref h0, .int a1]) (n := 2) (Nat.le_of_ble_eq_true rfl)
  rw [lg_entry_eq]
  generalize (lg_sl ([.ref h0, .int a1]) ++ List.replicate (2 - (lg_sl ([.ref h0, .int a1])).length) Slot.unset).toArray = ls at hl ⊢
  have hl : lv_has ls 2 [(0, .ref h0), (1, .int a1)] := hl
  refine lv_iload_n hx hb dM_letter_0 rfl (lv_at hl 1 rfl) ?_
  refine lv_if_lt (tgt := 10) hx hb dM_letter_1 (by decide) (fun c_1 => ?_) (fun c_1 => ?_)
  · refine lv_iconst (v := (-1 : Int32)) hx hb dM_letter_10 (by decide) ?_
    refine lv_goto (tgt := 31) hx hb dM_letter_11 (by decide) ?_
    exact W.iret (v := (-1 : Int32)) hx hb hr (fun tt ht hW => ⟨⟨(-1 : Int32), (), rfl, (by unfold f_M_letter; rw [if_pos c_1]), trivial⟩, hS.F ht⟩) hS.2.2 dM_letter_31
  · refine lv_iload_n hx hb dM_letter_4 rfl (lv_at hl 1 rfl) ?_
    refine lv_bipush (v := (63 : Int32)) hx hb dM_letter_5 (by decide) ?_
    refine lv_icmp_le (tgt := 14) hx hb dM_letter_7 (by decide) (fun c_2 => ?_) (fun c_2 => ?_)
    · refine lv_iload_n hx hb dM_letter_14 rfl (lv_at hl 1 rfl) ?_
      refine lv_bipush (v := (56 : Int32)) hx hb dM_letter_15 (by decide) ?_
      refine lv_icmp_ge (tgt := 29) hx hb dM_letter_17 (by decide) (fun c_3 => ?_) (fun c_3 => ?_)
      · refine lv_bipush (v := (63 : Int32)) hx hb dM_letter_29 (by decide) ?_
        exact W.iret (v := (63 : Int32)) hx hb hr (fun tt ht hW => ⟨⟨(63 : Int32), (), rfl, (by unfold f_M_letter; rw [if_neg c_1, if_pos c_2, if_pos c_3]), trivial⟩, hS.F ht⟩) hS.2.2 dM_letter_31
      · refine lv_aload_n hx hb dM_letter_20 rfl (lv_at hl 0 rfl) ?_
        refine va_get (D := (dC, dI)) (ci := 1) (v := .ref q3) (C := RM) (T := TM) (N := 4) hx hb hts iM hown hK hP 0 rfl rfl 2 (by decide) (hts _ tw_216) (fun _ h9 => h9) rfl dM_letter_21 ?_
        refine lv_iload_n hx hb dM_letter_24 rfl (lv_at hl 1 rfl) ?_
        refine va_iald hx hb hK hP 3 2 rfl rfl (in_56 c_1 c_3) dM_letter_25 ?_
        refine lv_goto (tgt := 31) hx hb dM_letter_26 (by decide) ?_
        exact W.iret (v := (t a1.toNatClampNeg)) hx hb hr (fun tt ht hW => ⟨⟨(t a1.toNatClampNeg), (), rfl, (by unfold f_M_letter; rw [if_neg c_1, if_pos c_2, if_neg c_3]), trivial⟩, hS.F ht⟩) hS.2.2 dM_letter_31
    · refine lv_iconst (v := (-1 : Int32)) hx hb dM_letter_10 (by decide) ?_
      refine lv_goto (tgt := 31) hx hb dM_letter_11 (by decide) ?_
      exact W.iret (v := (-1 : Int32)) hx hb hr (fun tt ht hW => ⟨⟨(-1 : Int32), (), rfl, (by unfold f_M_letter; rw [if_neg c_1, if_neg c_2]), trivial⟩, hS.F ht⟩) hS.2.2 dM_letter_31
