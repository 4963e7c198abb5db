set_option maxHeartbeats 4000000 in
set_option maxRecDepth 100000 in
theorem c_Mo_statement (l : Launch) (E : gk_E) (h0 : Nat) (q1 : Nat) (q2 : Nat) (q3 : Nat) (q4 : Nat) (q5 : Nat) (q6 : Nat) (q7 : Nat) (q8 : Nat) (q9 : Nat) (q10 : Nat) (q11 : Nat) (q12 : Nat) (q13 : Nat) (q14 : Nat) (q15 : Nat) (q16 : Nat) (q17 : Nat) (q18 : Nat) (q19 : Nat) (q20 : Nat) (q21 : Nat) (q22 : Nat) (q23 : Nat) (q24 : Nat) (q25 : Nat) (q26 : Nat) (q27 : Nat) (q28 : Nat) (q29 : Nat) (q30 : Nat) (q31 : Nat) (q32 : Nat) (q33 : Nat) (q34 : Nat) (q35 : Nat) (q36 : Nat) (q37 : Nat) (q38 : Nat) (q39 : Nat) (q40 : Nat) (q41 : Nat) (q42 : Nat) (q43 : Nat) (q44 : Nat) (q45 : Nat) (q46 : Nat) (q47 : Nat) (q48 : Nat) (q49 : Nat) (q50 : Nat) (q51 : Nat) (q52 : Nat) (q53 : Nat) (q54 : Nat) (xi : Int32) (xj : Int32) (sz : Nat) : gk_M l E y_Mo_statement b_Mo_statement 5 (some .int) 0 0 0 [.ref h0, .int xi, .int xj] [(h0, .inr (10, [.int 0, .ref q1, .ref q2, .int 0, .ref q3, .ref q4, .ref q5, .ref q6, .ref q7, .ref q8, .ref q9, .ref q10, .ref q11, .ref q12, .ref q13, .ref q14, .ref q15, .ref q16, .ref q17, .int 0, .int 0, .int 0, .int 0, .ref q18, .ref q19, .ref q20, .ref q21, .int 0, .int 0, .ref q22, .ref q23, .int 0, .int 0, .int 0, .int 0, .int 0, .int 0, .int 0, .int 0, .ref q24, .int 0, .int 0, .int 0, .int 0, .ref q25, .ref q26, .ref q27, .ref q28, .ref q29, .ref q30, .ref q31, .ref q32, .int 0, .int 0, .ref q33, .ref q34, .ref q35, .int 0, .ref q36, .ref q37, .ref q38, .ref q39, .ref q40, .ref q41, .ref q42, .ref q43, .ref q44, .int 0, .ref q45, .ref q46, .ref q47, .ref q48, .ref q49, .int 0, .ref q50, .ref q51, .ref q52, .int 0, .int 0, .ref q53, .ref q54])), (q3, .inl (E.2.1 0, 13, .inl (fun _ => 0)))] sz (fun r w => r = some (.int (-1)) ∧ w = []) := by
  refine gk_met (by decide) (Nat.le_of_ble_eq_true rfl) ?_
  intro p e s m below meth c A ls X hl hP hD hS
  have hx := X.1
  have hb := X.2.1
  have hown := X.2.2.2.1
  have hts := X.2.2.2.2.1
  have hZ := X.2.2.2.2.2.2.1
  have hr := X.2.2.2.2.2.2.2.2.1
  have hlocks : meth.locks = false := X.2.2.2.2.2.2.2.2.2.1
  have hl : lv_has ls 5 [(0, .ref h0), (1, .int xi), (2, .int xj)] := hl
  refine lv_aload_n hx hb d_Mo_statement_0 rfl (lv_at hl 0 rfl) ?_
  refine lv_iconst (v := 0) hx hb d_Mo_statement_1 (by decide) ?_
  refine gk_put (b := h0) (ci := 10) (v := .int 0) (ty := t_Mo 0) (ws' := [(h0, .inr (10, [.int 0, .ref q1, .ref q2, .int 0, .ref q3, .ref q4, .ref q5, .ref q6, .ref q7, .ref q8, .ref q9, .ref q10, .ref q11, .ref q12, .ref q13, .ref q14, .ref q15, .ref q16, .ref q17, .int 0, .int 0, .int 0, .int 0, .ref q18, .ref q19, .ref q20, .ref q21, .int 0, .int 0, .ref q22, .ref q23, .int 0, .int 0, .int 0, .int 0, .int 0, .int 0, .int 0, .int 0, .ref q24, .int 0, .int 0, .int 0, .int 0, .ref q25, .ref q26, .ref q27, .ref q28, .ref q29, .ref q30, .ref q31, .ref q32, .int 0, .int 0, .ref q33, .ref q34, .ref q35, .int 0, .ref q36, .ref q37, .ref q38, .ref q39, .ref q40, .ref q41, .ref q42, .ref q43, .ref q44, .int 0, .ref q45, .ref q46, .ref q47, .ref q48, .ref q49, .int 0, .ref q50, .ref q51, .ref q52, .int 0, .int 0, .ref q53, .ref q54])), (q3, .inl (E.2.1 0, 13, .inl (fun _ => 0)))]) X in_Mo t_Mo t_Mo_ok n_Mo hP hD hS 0 rfl rfl 0 (by decide) k_1355 (Or.inl rfl) (t_Mo_ok 0 (by decide)) rfl rfl (Nat.le_of_ble_eq_true rfl) d_Mo_statement_2 rfl (fun H locs hP hD hS => ?_)
  refine lv_iload_n hx hb d_Mo_statement_5 rfl (lv_at hl 1 rfl) ?_
  refine lv_if_lt (tgt := 19) hx hb d_Mo_statement_6 (by decide) (fun c55 => ?_) (fun c55 => ?_)
  · refine lv_iconst (v := (-1)) hx hb d_Mo_statement_19 (by decide) ?_
    have hP9 := hP.sub (ws' := []) [] rfl
    have hD9 := hD.sub (ws' := []) [] (by decide) rfl
    refine W.widen (k := 0) (n := 0) (Nat.le_of_ble_eq_true rfl) (Nat.le_of_ble_eq_true rfl) ?_
    exact W.iret hx hb hr (gk_q hP9 hD9 hS ⟨rfl, rfl⟩) hS.2.2 d_Mo_statement_20
  · refine lv_iload_n hx hb d_Mo_statement_9 rfl (lv_at hl 1 rfl) ?_
    refine lv_aload_n hx hb d_Mo_statement_10 rfl (lv_at hl 0 rfl) ?_
    refine gk_get (b := h0) (ci := 10) (v := .ref q3) X in_Mo hP 0 rfl rfl 4 (by decide) k_1359 rfl d_Mo_statement_11 ?_
    refine lv_iconst (v := 0) hx hb d_Mo_statement_14 (by decide) ?_
    refine va_iald hx hb X.2.2.2.2.2.1.1 hP 1 0 rfl rfl (i := 0) (by unfold vp_in; decide) d_Mo_statement_15 ?_
    refine lv_icmp_lt (tgt := 21) hx hb d_Mo_statement_16 (by decide) (fun c9 => absurd c9 c55) (fun _ => ?_)
    refine lv_iconst (v := (-1)) hx hb d_Mo_statement_19 (by decide) ?_
    have hP9 := hP.sub (ws' := []) [] rfl
    have hD9 := hD.sub (ws' := []) [] (by decide) rfl
    refine W.widen (k := 0) (n := 0) (Nat.le_of_ble_eq_true rfl) (Nat.le_of_ble_eq_true rfl) ?_
    exact W.iret hx hb hr (gk_q hP9 hD9 hS ⟨rfl, rfl⟩) hS.2.2 d_Mo_statement_20

set_option maxHeartbeats 4000000 in
set_option maxRecDepth 100000 in
theorem c_Mo_parameter (l : Launch) (E : gk_E) (h0 : Nat) (q1 : Nat) (q2 : Nat) (q3 : Nat) (q4 : Nat) (q5 : Nat) (q6 : Nat) (q7 : Nat) (q8 : Nat) (q9 : Nat) (q10 : Nat) (q11 : Nat) (q12 : Nat) (q13 : Nat) (q14 : Nat) (q15 : Nat) (q16 : Nat) (q17 : Nat) (q18 : Nat) (q19 : Nat) (q20 : Nat) (q21 : Nat) (q22 : Nat) (q23 : Nat) (q24 : Nat) (q25 : Nat) (q26 : Nat) (q27 : Nat) (q28 : Nat) (q29 : Nat) (q30 : Nat) (q31 : Nat) (q32 : Nat) (q33 : Nat) (q34 : Nat) (q35 : Nat) (q36 : Nat) (q37 : Nat) (q38 : Nat) (q39 : Nat) (q40 : Nat) (q41 : Nat) (q42 : Nat) (q43 : Nat) (q44 : Nat) (q45 : Nat) (q46 : Nat) (q47 : Nat) (q48 : Nat) (q49 : Nat) (q50 : Nat) (q51 : Nat) (q52 : Nat) (q53 : Nat) (q54 : Nat) (xi : Int32) (xj : Int32) (xk : Int32) (sz : Nat) : gk_M l E y_Mo_parameter b_Mo_parameter 5 (some .int) 0 0 0 [.ref h0, .int xi, .int xj, .int xk] [(h0, .inr (10, [.int 0, .ref q1, .ref q2, .int 0, .ref q3, .ref q4, .ref q5, .ref q6, .ref q7, .ref q8, .ref q9, .ref q10, .ref q11, .ref q12, .ref q13, .ref q14, .ref q15, .ref q16, .ref q17, .int 0, .int 0, .int 0, .int 0, .ref q18, .ref q19, .ref q20, .ref q21, .int 0, .int 0, .ref q22, .ref q23, .int 0, .int 0, .int 0, .int 0, .int 0, .int 0, .int 0, .int 0, .ref q24, .int 0, .int 0, .int 0, .int 0, .ref q25, .ref q26, .ref q27, .ref q28, .ref q29, .ref q30, .ref q31, .ref q32, .int 0, .int 0, .ref q33, .ref q34, .ref q35, .int 0, .ref q36, .ref q37, .ref q38, .ref q39, .ref q40, .ref q41, .ref q42, .ref q43, .ref q44, .int 0, .ref q45, .ref q46, .ref q47, .ref q48, .ref q49, .int 0, .ref q50, .ref q51, .ref q52, .int 0, .int 0, .ref q53, .ref q54])), (q3, .inl (E.2.1 0, 13, .inl (fun _ => 0)))] sz (fun r w => r = some (.int (-1)) ∧ w = []) := by
  refine gk_met (by decide) (Nat.le_of_ble_eq_true rfl) ?_
  intro p e s m below meth c A ls X hl hP hD hS
  have hx := X.1
  have hb := X.2.1
  have hown := X.2.2.2.1
  have hts := X.2.2.2.2.1
  have hZ := X.2.2.2.2.2.2.1
  have hr := X.2.2.2.2.2.2.2.2.1
  have hlocks : meth.locks = false := X.2.2.2.2.2.2.2.2.2.1
  have hl : lv_has ls 5 [(0, .ref h0), (1, .int xi), (2, .int xj), (3, .int xk)] := hl
  refine lv_aload_n hx hb d_Mo_parameter_0 rfl (lv_at hl 0 rfl) ?_
  refine lv_iconst (v := 0) hx hb d_Mo_parameter_1 (by decide) ?_
  refine gk_put (b := h0) (ci := 10) (v := .int 0) (ty := t_Mo 0) (ws' := [(h0, .inr (10, [.int 0, .ref q1, .ref q2, .int 0, .ref q3, .ref q4, .ref q5, .ref q6, .ref q7, .ref q8, .ref q9, .ref q10, .ref q11, .ref q12, .ref q13, .ref q14, .ref q15, .ref q16, .ref q17, .int 0, .int 0, .int 0, .int 0, .ref q18, .ref q19, .ref q20, .ref q21, .int 0, .int 0, .ref q22, .ref q23, .int 0, .int 0, .int 0, .int 0, .int 0, .int 0, .int 0, .int 0, .ref q24, .int 0, .int 0, .int 0, .int 0, .ref q25, .ref q26, .ref q27, .ref q28, .ref q29, .ref q30, .ref q31, .ref q32, .int 0, .int 0, .ref q33, .ref q34, .ref q35, .int 0, .ref q36, .ref q37, .ref q38, .ref q39, .ref q40, .ref q41, .ref q42, .ref q43, .ref q44, .int 0, .ref q45, .ref q46, .ref q47, .ref q48, .ref q49, .int 0, .ref q50, .ref q51, .ref q52, .int 0, .int 0, .ref q53, .ref q54])), (q3, .inl (E.2.1 0, 13, .inl (fun _ => 0)))]) X in_Mo t_Mo t_Mo_ok n_Mo hP hD hS 0 rfl rfl 0 (by decide) k_1355 (Or.inl rfl) (t_Mo_ok 0 (by decide)) rfl rfl (Nat.le_of_ble_eq_true rfl) d_Mo_parameter_2 rfl (fun H locs hP hD hS => ?_)
  refine lv_iload_n hx hb d_Mo_parameter_5 rfl (lv_at hl 1 rfl) ?_
  refine lv_if_lt (tgt := 33) hx hb d_Mo_parameter_6 (by decide) (fun c55 => ?_) (fun c55 => ?_)
  · refine lv_iconst (v := (-1)) hx hb d_Mo_parameter_33 (by decide) ?_
    have hP9 := hP.sub (ws' := []) [] rfl
    have hD9 := hD.sub (ws' := []) [] (by decide) rfl
    refine W.widen (k := 0) (n := 0) (Nat.le_of_ble_eq_true rfl) (Nat.le_of_ble_eq_true rfl) ?_
    exact W.iret hx hb hr (gk_q hP9 hD9 hS ⟨rfl, rfl⟩) hS.2.2 d_Mo_parameter_34
  · refine lv_iload_n hx hb d_Mo_parameter_9 rfl (lv_at hl 1 rfl) ?_
    refine lv_aload_n hx hb d_Mo_parameter_10 rfl (lv_at hl 0 rfl) ?_
    refine gk_get (b := h0) (ci := 10) (v := .ref q3) X in_Mo hP 0 rfl rfl 4 (by decide) k_1359 rfl d_Mo_parameter_11 ?_
    refine lv_iconst (v := 0) hx hb d_Mo_parameter_14 (by decide) ?_
    refine va_iald hx hb X.2.2.2.2.2.1.1 hP 1 0 rfl rfl (i := 0) (by unfold vp_in; decide) d_Mo_parameter_15 ?_
    refine lv_icmp_ge (tgt := 33) hx hb d_Mo_parameter_16 (by decide) (fun _ => ?_) (fun c9 => absurd (Int32.not_lt.mp c55) c9)
    refine lv_iconst (v := (-1)) hx hb d_Mo_parameter_33 (by decide) ?_
    have hP9 := hP.sub (ws' := []) [] rfl
    have hD9 := hD.sub (ws' := []) [] (by decide) rfl
    refine W.widen (k := 0) (n := 0) (Nat.le_of_ble_eq_true rfl) (Nat.le_of_ble_eq_true rfl) ?_
    exact W.iret hx hb hr (gk_q hP9 hD9 hS ⟨rfl, rfl⟩) hS.2.2 d_Mo_parameter_34

set_option maxHeartbeats 4000000 in
set_option maxRecDepth 100000 in
theorem c_Mo_data (l : Launch) (E : gk_E) (h0 : Nat) (q1 : Nat) (q2 : Nat) (q3 : Nat) (q4 : Nat) (q5 : Nat) (q6 : Nat) (q7 : Nat) (q8 : Nat) (q9 : Nat) (q10 : Nat) (q11 : Nat) (q12 : Nat) (q13 : Nat) (q14 : Nat) (q15 : Nat) (q16 : Nat) (q17 : Nat) (q18 : Nat) (q19 : Nat) (q20 : Nat) (q21 : Nat) (q22 : Nat) (q23 : Nat) (q24 : Nat) (q25 : Nat) (q26 : Nat) (q27 : Nat) (q28 : Nat) (q29 : Nat) (q30 : Nat) (q31 : Nat) (q32 : Nat) (q33 : Nat) (q34 : Nat) (q35 : Nat) (q36 : Nat) (q37 : Nat) (q38 : Nat) (q39 : Nat) (q40 : Nat) (q41 : Nat) (q42 : Nat) (q43 : Nat) (q44 : Nat) (q45 : Nat) (q46 : Nat) (q47 : Nat) (q48 : Nat) (q49 : Nat) (q50 : Nat) (q51 : Nat) (q52 : Nat) (q53 : Nat) (q54 : Nat) (xi : Int32) (xj : Int32) (sz : Nat) : gk_M l E y_Mo_data b_Mo_data 3 (some .int) 0 0 0 [.ref h0, .int xi, .int xj] [(h0, .inr (10, [.int 0, .ref q1, .ref q2, .int 0, .ref q3, .ref q4, .ref q5, .ref q6, .ref q7, .ref q8, .ref q9, .ref q10, .ref q11, .ref q12, .ref q13, .ref q14, .ref q15, .ref q16, .ref q17, .int 0, .int 0, .int 0, .int 0, .ref q18, .ref q19, .ref q20, .ref q21, .int 0, .int 0, .ref q22, .ref q23, .int 0, .int 0, .int 0, .int 0, .int 0, .int 0, .int 0, .int 0, .ref q24, .int 0, .int 0, .int 0, .int 0, .ref q25, .ref q26, .ref q27, .ref q28, .ref q29, .ref q30, .ref q31, .ref q32, .int 0, .int 0, .ref q33, .ref q34, .ref q35, .int 0, .ref q36, .ref q37, .ref q38, .ref q39, .ref q40, .ref q41, .ref q42, .ref q43, .ref q44, .int 0, .ref q45, .ref q46, .ref q47, .ref q48, .ref q49, .int 0, .ref q50, .ref q51, .ref q52, .int 0, .int 0, .ref q53, .ref q54])), (q3, .inl (E.2.1 0, 13, .inl (fun _ => 0)))] sz (fun r w => r = some (.int (-1)) ∧ w = []) := by
  refine gk_met (by decide) (Nat.le_of_ble_eq_true rfl) ?_
  intro p e s m below meth c A ls X hl hP hD hS
  have hx := X.1
  have hb := X.2.1
  have hown := X.2.2.2.1
  have hts := X.2.2.2.2.1
  have hZ := X.2.2.2.2.2.2.1
  have hr := X.2.2.2.2.2.2.2.2.1
  have hlocks : meth.locks = false := X.2.2.2.2.2.2.2.2.2.1
  have hl : lv_has ls 3 [(0, .ref h0), (1, .int xi), (2, .int xj)] := hl
  refine lv_aload_n hx hb d_Mo_data_0 rfl (lv_at hl 0 rfl) ?_
  refine lv_iconst (v := 0) hx hb d_Mo_data_1 (by decide) ?_
  refine gk_put (b := h0) (ci := 10) (v := .int 0) (ty := t_Mo 0) (ws' := [(h0, .inr (10, [.int 0, .ref q1, .ref q2, .int 0, .ref q3, .ref q4, .ref q5, .ref q6, .ref q7, .ref q8, .ref q9, .ref q10, .ref q11, .ref q12, .ref q13, .ref q14, .ref q15, .ref q16, .ref q17, .int 0, .int 0, .int 0, .int 0, .ref q18, .ref q19, .ref q20, .ref q21, .int 0, .int 0, .ref q22, .ref q23, .int 0, .int 0, .int 0, .int 0, .int 0, .int 0, .int 0, .int 0, .ref q24, .int 0, .int 0, .int 0, .int 0, .ref q25, .ref q26, .ref q27, .ref q28, .ref q29, .ref q30, .ref q31, .ref q32, .int 0, .int 0, .ref q33, .ref q34, .ref q35, .int 0, .ref q36, .ref q37, .ref q38, .ref q39, .ref q40, .ref q41, .ref q42, .ref q43, .ref q44, .int 0, .ref q45, .ref q46, .ref q47, .ref q48, .ref q49, .int 0, .ref q50, .ref q51, .ref q52, .int 0, .int 0, .ref q53, .ref q54])), (q3, .inl (E.2.1 0, 13, .inl (fun _ => 0)))]) X in_Mo t_Mo t_Mo_ok n_Mo hP hD hS 0 rfl rfl 0 (by decide) k_1355 (Or.inl rfl) (t_Mo_ok 0 (by decide)) rfl rfl (Nat.le_of_ble_eq_true rfl) d_Mo_data_2 rfl (fun H locs hP hD hS => ?_)
  refine lv_iload_n hx hb d_Mo_data_5 rfl (lv_at hl 1 rfl) ?_
  refine lv_if_lt (tgt := 33) hx hb d_Mo_data_6 (by decide) (fun c55 => ?_) (fun c55 => ?_)
  · refine lv_iconst (v := (-1)) hx hb d_Mo_data_33 (by decide) ?_
    refine lv_goto (tgt := 45) hx hb d_Mo_data_34 (by decide) ?_
    have hP9 := hP.sub (ws' := []) [] rfl
    have hD9 := hD.sub (ws' := []) [] (by decide) rfl
    refine W.widen (k := 0) (n := 0) (Nat.le_of_ble_eq_true rfl) (Nat.le_of_ble_eq_true rfl) ?_
    exact W.iret hx hb hr (gk_q hP9 hD9 hS ⟨rfl, rfl⟩) hS.2.2 d_Mo_data_45
  · refine lv_iload_n hx hb d_Mo_data_9 rfl (lv_at hl 1 rfl) ?_
    refine lv_aload_n hx hb d_Mo_data_10 rfl (lv_at hl 0 rfl) ?_
    refine gk_get (b := h0) (ci := 10) (v := .ref q3) X in_Mo hP 0 rfl rfl 4 (by decide) k_1359 rfl d_Mo_data_11 ?_
    refine lv_iconst (v := 0) hx hb d_Mo_data_14 (by decide) ?_
    refine va_iald hx hb X.2.2.2.2.2.1.1 hP 1 0 rfl rfl (i := 0) (by unfold vp_in; decide) d_Mo_data_15 ?_
    refine lv_icmp_ge (tgt := 33) hx hb d_Mo_data_16 (by decide) (fun _ => ?_) (fun c9 => absurd (Int32.not_lt.mp c55) c9)
    refine lv_iconst (v := (-1)) hx hb d_Mo_data_33 (by decide) ?_
    refine lv_goto (tgt := 45) hx hb d_Mo_data_34 (by decide) ?_
    have hP9 := hP.sub (ws' := []) [] rfl
    have hD9 := hD.sub (ws' := []) [] (by decide) rfl
    refine W.widen (k := 0) (n := 0) (Nat.le_of_ble_eq_true rfl) (Nat.le_of_ble_eq_true rfl) ?_
    exact W.iret hx hb hr (gk_q hP9 hD9 hS ⟨rfl, rfl⟩) hS.2.2 d_Mo_data_45

set_option maxHeartbeats 4000000 in
set_option maxRecDepth 100000 in
theorem c_Mo_fault (l : Launch) (E : gk_E) (h0 : Nat) (q1 : Nat) (q2 : Nat) (q3 : Nat) (q4 : Nat) (q5 : Nat) (q6 : Nat) (q7 : Nat) (q8 : Nat) (q9 : Nat) (q10 : Nat) (q11 : Nat) (q12 : Nat) (q13 : Nat) (q14 : Nat) (q15 : Nat) (q16 : Nat) (q17 : Nat) (q18 : Nat) (q19 : Nat) (q20 : Nat) (q21 : Nat) (q22 : Nat) (q23 : Nat) (q24 : Nat) (q25 : Nat) (q26 : Nat) (q27 : Nat) (q28 : Nat) (q29 : Nat) (q30 : Nat) (q31 : Nat) (q32 : Nat) (q33 : Nat) (q34 : Nat) (q35 : Nat) (q36 : Nat) (q37 : Nat) (q38 : Nat) (q39 : Nat) (q40 : Nat) (q41 : Nat) (q42 : Nat) (q43 : Nat) (q44 : Nat) (q45 : Nat) (q46 : Nat) (q47 : Nat) (q48 : Nat) (q49 : Nat) (q50 : Nat) (q51 : Nat) (q52 : Nat) (q53 : Nat) (q54 : Nat) (xi : Int32) (xj : Int32) (sz : Nat) : gk_M l E y_Mo_fault b_Mo_fault 3 (some .int) 0 0 0 [.ref h0, .int xi, .int xj] [(h0, .inr (10, [.int 0, .ref q1, .ref q2, .int 0, .ref q3, .ref q4, .ref q5, .ref q6, .ref q7, .ref q8, .ref q9, .ref q10, .ref q11, .ref q12, .ref q13, .ref q14, .ref q15, .ref q16, .ref q17, .int 0, .int 0, .int 0, .int 0, .ref q18, .ref q19, .ref q20, .ref q21, .int 0, .int 0, .ref q22, .ref q23, .int 0, .int 0, .int 0, .int 0, .int 0, .int 0, .int 0, .int 0, .ref q24, .int 0, .int 0, .int 0, .int 0, .ref q25, .ref q26, .ref q27, .ref q28, .ref q29, .ref q30, .ref q31, .ref q32, .int 0, .int 0, .ref q33, .ref q34, .ref q35, .int 0, .ref q36, .ref q37, .ref q38, .ref q39, .ref q40, .ref q41, .ref q42, .ref q43, .ref q44, .int 0, .ref q45, .ref q46, .ref q47, .ref q48, .ref q49, .int 0, .ref q50, .ref q51, .ref q52, .int 0, .int 0, .ref q53, .ref q54]))] sz (fun r w => r = some (.int (-1)) ∧ w = []) := by
  refine gk_met (by decide) (Nat.le_of_ble_eq_true rfl) ?_
  intro p e s m below meth c A ls X hl hP hD hS
  have hx := X.1
  have hb := X.2.1
  have hown := X.2.2.2.1
  have hts := X.2.2.2.2.1
  have hZ := X.2.2.2.2.2.2.1
  have hr := X.2.2.2.2.2.2.2.2.1
  have hlocks : meth.locks = false := X.2.2.2.2.2.2.2.2.2.1
  have hl : lv_has ls 3 [(0, .ref h0), (1, .int xi), (2, .int xj)] := hl
  refine lv_aload_n hx hb d_Mo_fault_0 rfl (lv_at hl 0 rfl) ?_
  refine lv_iconst (v := 0) hx hb d_Mo_fault_1 (by decide) ?_
  refine gk_put (b := h0) (ci := 10) (v := .int 0) (ty := t_Mo 0) (ws' := [(h0, .inr (10, [.int 0, .ref q1, .ref q2, .int 0, .ref q3, .ref q4, .ref q5, .ref q6, .ref q7, .ref q8, .ref q9, .ref q10, .ref q11, .ref q12, .ref q13, .ref q14, .ref q15, .ref q16, .ref q17, .int 0, .int 0, .int 0, .int 0, .ref q18, .ref q19, .ref q20, .ref q21, .int 0, .int 0, .ref q22, .ref q23, .int 0, .int 0, .int 0, .int 0, .int 0, .int 0, .int 0, .int 0, .ref q24, .int 0, .int 0, .int 0, .int 0, .ref q25, .ref q26, .ref q27, .ref q28, .ref q29, .ref q30, .ref q31, .ref q32, .int 0, .int 0, .ref q33, .ref q34, .ref q35, .int 0, .ref q36, .ref q37, .ref q38, .ref q39, .ref q40, .ref q41, .ref q42, .ref q43, .ref q44, .int 0, .ref q45, .ref q46, .ref q47, .ref q48, .ref q49, .int 0, .ref q50, .ref q51, .ref q52, .int 0, .int 0, .ref q53, .ref q54]))]) X in_Mo t_Mo t_Mo_ok n_Mo hP hD hS 0 rfl rfl 0 (by decide) k_1355 (Or.inl rfl) (t_Mo_ok 0 (by decide)) rfl rfl (Nat.le_of_ble_eq_true rfl) d_Mo_fault_2 rfl (fun H locs hP hD hS => ?_)
  refine lv_iload_n hx hb d_Mo_fault_5 rfl (lv_at hl 1 rfl) ?_
  refine lv_if_lt (tgt := 23) hx hb d_Mo_fault_6 (by decide) (fun c55 => ?_) (fun c55 => ?_)
  · refine lv_iconst (v := (-1)) hx hb d_Mo_fault_23 (by decide) ?_
    have hP9 := hP.sub (ws' := []) [] rfl
    have hD9 := hD.sub (ws' := []) [] (by decide) rfl
    refine W.widen (k := 0) (n := 0) (Nat.le_of_ble_eq_true rfl) (Nat.le_of_ble_eq_true rfl) ?_
    exact W.iret hx hb hr (gk_q hP9 hD9 hS ⟨rfl, rfl⟩) hS.2.2 d_Mo_fault_24
  · refine lv_iload_n hx hb d_Mo_fault_9 rfl (lv_at hl 1 rfl) ?_
    refine lv_aload_n hx hb d_Mo_fault_10 rfl (lv_at hl 0 rfl) ?_
    refine gk_get (b := h0) (ci := 10) (v := .int 0) X in_Mo hP 0 rfl rfl 22 (by decide) k_1377 rfl d_Mo_fault_11 ?_
    refine lv_icmp_ge (tgt := 23) hx hb d_Mo_fault_14 (by decide) (fun _ => ?_) (fun c9 => absurd (Int32.not_lt.mp c55) c9)
    refine lv_iconst (v := (-1)) hx hb d_Mo_fault_23 (by decide) ?_
    have hP9 := hP.sub (ws' := []) [] rfl
    have hD9 := hD.sub (ws' := []) [] (by decide) rfl
    refine W.widen (k := 0) (n := 0) (Nat.le_of_ble_eq_true rfl) (Nat.le_of_ble_eq_true rfl) ?_
    exact W.iret hx hb hr (gk_q hP9 hD9 hS ⟨rfl, rfl⟩) hS.2.2 d_Mo_fault_24

set_option maxHeartbeats 4000000 in
set_option maxRecDepth 100000 in
theorem c_Mo_expand (l : Launch) (E : gk_E) (h0 : Nat) (q1 : Nat) (q2 : Nat) (q3 : Nat) (q4 : Nat) (q5 : Nat) (q6 : Nat) (q7 : Nat) (q8 : Nat) (q9 : Nat) (q10 : Nat) (q11 : Nat) (q12 : Nat) (q13 : Nat) (q14 : Nat) (q15 : Nat) (q16 : Nat) (q17 : Nat) (q18 : Nat) (q19 : Nat) (q20 : Nat) (q21 : Nat) (q22 : Nat) (q23 : Nat) (q24 : Nat) (q25 : Nat) (q26 : Nat) (q27 : Nat) (q28 : Nat) (q29 : Nat) (q30 : Nat) (q31 : Nat) (q32 : Nat) (q33 : Nat) (q34 : Nat) (q35 : Nat) (q36 : Nat) (q37 : Nat) (q38 : Nat) (q39 : Nat) (q40 : Nat) (q41 : Nat) (q42 : Nat) (q43 : Nat) (q44 : Nat) (q45 : Nat) (q46 : Nat) (q47 : Nat) (q48 : Nat) (q49 : Nat) (q50 : Nat) (q51 : Nat) (q52 : Nat) (q53 : Nat) (q54 : Nat) (sz : Nat) : gk_M l E y_Mo_expand b_Mo_expand 4 (some .int) 0 0 0 [.ref h0] [(h0, .inr (10, [.int 0, .ref q1, .ref q2, .int 0, .ref q3, .ref q4, .ref q5, .ref q6, .ref q7, .ref q8, .ref q9, .ref q10, .ref q11, .ref q12, .ref q13, .ref q14, .ref q15, .ref q16, .ref q17, .int 0, .int 0, .int 0, .int 0, .ref q18, .ref q19, .ref q20, .ref q21, .int 0, .int 0, .ref q22, .ref q23, .int 0, .int 0, .int 0, .int 0, .int 0, .int 0, .int 0, .int 0, .ref q24, .int 0, .int 0, .int 0, .int 0, .ref q25, .ref q26, .ref q27, .ref q28, .ref q29, .ref q30, .ref q31, .ref q32, .int 0, .int 0, .ref q33, .ref q34, .ref q35, .int 0, .ref q36, .ref q37, .ref q38, .ref q39, .ref q40, .ref q41, .ref q42, .ref q43, .ref q44, .int 0, .ref q45, .ref q46, .ref q47, .ref q48, .ref q49, .int 0, .ref q50, .ref q51, .ref q52, .int 0, .int 0, .ref q53, .ref q54]))] sz (fun r w => r = some (.int (-2)) ∧ w = []) := by
  refine gk_met (by decide) (Nat.le_of_ble_eq_true rfl) ?_
  intro p e s m below meth c A ls X hl hP hD hS
  have hx := X.1
  have hb := X.2.1
  have hown := X.2.2.2.1
  have hts := X.2.2.2.2.1
  have hZ := X.2.2.2.2.2.2.1
  have hr := X.2.2.2.2.2.2.2.2.1
  have hlocks : meth.locks = false := X.2.2.2.2.2.2.2.2.2.1
  have hl : lv_has ls 4 [(0, .ref h0)] := hl
  refine lv_aload_n hx hb d_Mo_expand_0 rfl (lv_at hl 0 rfl) ?_
  refine lv_iconst (v := 0) hx hb d_Mo_expand_1 (by decide) ?_
  refine gk_put (b := h0) (ci := 10) (v := .int 0) (ty := t_Mo 0) (ws' := [(h0, .inr (10, [.int 0, .ref q1, .ref q2, .int 0, .ref q3, .ref q4, .ref q5, .ref q6, .ref q7, .ref q8, .ref q9, .ref q10, .ref q11, .ref q12, .ref q13, .ref q14, .ref q15, .ref q16, .ref q17, .int 0, .int 0, .int 0, .int 0, .ref q18, .ref q19, .ref q20, .ref q21, .int 0, .int 0, .ref q22, .ref q23, .int 0, .int 0, .int 0, .int 0, .int 0, .int 0, .int 0, .int 0, .ref q24, .int 0, .int 0, .int 0, .int 0, .ref q25, .ref q26, .ref q27, .ref q28, .ref q29, .ref q30, .ref q31, .ref q32, .int 0, .int 0, .ref q33, .ref q34, .ref q35, .int 0, .ref q36, .ref q37, .ref q38, .ref q39, .ref q40, .ref q41, .ref q42, .ref q43, .ref q44, .int 0, .ref q45, .ref q46, .ref q47, .ref q48, .ref q49, .int 0, .ref q50, .ref q51, .ref q52, .int 0, .int 0, .ref q53, .ref q54]))]) X in_Mo t_Mo t_Mo_ok n_Mo hP hD hS 0 rfl rfl 0 (by decide) k_1355 (Or.inl rfl) (t_Mo_ok 0 (by decide)) rfl rfl (Nat.le_of_ble_eq_true rfl) d_Mo_expand_2 rfl (fun H locs hP hD hS => ?_)
  refine lv_aload_n hx hb d_Mo_expand_5 rfl (lv_at hl 0 rfl) ?_
  refine gk_get (b := h0) (ci := 10) (v := .int 0) X in_Mo hP 0 rfl rfl 21 (by decide) k_1376 rfl d_Mo_expand_6 ?_
  refine lv_if_ne (tgt := 15) hx hb d_Mo_expand_9 (by decide) (fun c9 => absurd (by decide) c9) (fun _ => ?_)
  refine lv_bipush (v := (-2)) hx hb d_Mo_expand_12 (by decide) ?_
  have hP9 := hP.sub (ws' := []) [] rfl
  have hD9 := hD.sub (ws' := []) [] (by decide) rfl
  refine W.widen (k := 0) (n := 0) (Nat.le_of_ble_eq_true rfl) (Nat.le_of_ble_eq_true rfl) ?_
  exact W.iret hx hb hr (gk_q hP9 hD9 hS ⟨rfl, rfl⟩) hS.2.2 d_Mo_expand_14

set_option maxHeartbeats 4000000 in
set_option maxRecDepth 100000 in
theorem c_Mo_at (l : Launch) (E : gk_E) (h0 : Nat) (q1 : Nat) (q2 : Nat) (q3 : Nat) (q4 : Nat) (q5 : Nat) (q6 : Nat) (q7 : Nat) (q8 : Nat) (q9 : Nat) (q10 : Nat) (q11 : Nat) (q12 : Nat) (q13 : Nat) (q14 : Nat) (q15 : Nat) (q16 : Nat) (q17 : Nat) (q18 : Nat) (q19 : Nat) (q20 : Nat) (q21 : Nat) (q22 : Nat) (q23 : Nat) (q24 : Nat) (q25 : Nat) (q26 : Nat) (q27 : Nat) (q28 : Nat) (q29 : Nat) (q30 : Nat) (q31 : Nat) (q32 : Nat) (q33 : Nat) (q34 : Nat) (q35 : Nat) (q36 : Nat) (q37 : Nat) (q38 : Nat) (q39 : Nat) (q40 : Nat) (q41 : Nat) (q42 : Nat) (q43 : Nat) (q44 : Nat) (q45 : Nat) (q46 : Nat) (q47 : Nat) (q48 : Nat) (q49 : Nat) (q50 : Nat) (q51 : Nat) (q52 : Nat) (q53 : Nat) (q54 : Nat) (xi : Int32) (xj : Int32) (sz : Nat) : gk_M l E y_Mo_at b_Mo_at 3 (some .int) 0 0 0 [.ref h0, .int xi, .int xj] [(h0, .inr (10, [.int 0, .ref q1, .ref q2, .int 0, .ref q3, .ref q4, .ref q5, .ref q6, .ref q7, .ref q8, .ref q9, .ref q10, .ref q11, .ref q12, .ref q13, .ref q14, .ref q15, .ref q16, .ref q17, .int 0, .int 0, .int 0, .int 0, .ref q18, .ref q19, .ref q20, .ref q21, .int 0, .int 0, .ref q22, .ref q23, .int 0, .int 0, .int 0, .int 0, .int 0, .int 0, .int 0, .int 0, .ref q24, .int 0, .int 0, .int 0, .int 0, .ref q25, .ref q26, .ref q27, .ref q28, .ref q29, .ref q30, .ref q31, .ref q32, .int 0, .int 0, .ref q33, .ref q34, .ref q35, .int 0, .ref q36, .ref q37, .ref q38, .ref q39, .ref q40, .ref q41, .ref q42, .ref q43, .ref q44, .int 0, .ref q45, .ref q46, .ref q47, .ref q48, .ref q49, .int 0, .ref q50, .ref q51, .ref q52, .int 0, .int 0, .ref q53, .ref q54]))] sz (fun r w => r = some (.int (-1)) ∧ w = []) := by
  refine gk_met (by decide) (Nat.le_of_ble_eq_true rfl) ?_
  intro p e s m below meth c A ls X hl hP hD hS
  have hx := X.1
  have hb := X.2.1
  have hown := X.2.2.2.1
  have hts := X.2.2.2.2.1
  have hZ := X.2.2.2.2.2.2.1
  have hr := X.2.2.2.2.2.2.2.2.1
  have hlocks : meth.locks = false := X.2.2.2.2.2.2.2.2.2.1
  have hl : lv_has ls 3 [(0, .ref h0), (1, .int xi), (2, .int xj)] := hl
  refine lv_aload_n hx hb d_Mo_at_0 rfl (lv_at hl 0 rfl) ?_
  refine lv_iconst (v := 0) hx hb d_Mo_at_1 (by decide) ?_
  refine gk_put (b := h0) (ci := 10) (v := .int 0) (ty := t_Mo 0) (ws' := [(h0, .inr (10, [.int 0, .ref q1, .ref q2, .int 0, .ref q3, .ref q4, .ref q5, .ref q6, .ref q7, .ref q8, .ref q9, .ref q10, .ref q11, .ref q12, .ref q13, .ref q14, .ref q15, .ref q16, .ref q17, .int 0, .int 0, .int 0, .int 0, .ref q18, .ref q19, .ref q20, .ref q21, .int 0, .int 0, .ref q22, .ref q23, .int 0, .int 0, .int 0, .int 0, .int 0, .int 0, .int 0, .int 0, .ref q24, .int 0, .int 0, .int 0, .int 0, .ref q25, .ref q26, .ref q27, .ref q28, .ref q29, .ref q30, .ref q31, .ref q32, .int 0, .int 0, .ref q33, .ref q34, .ref q35, .int 0, .ref q36, .ref q37, .ref q38, .ref q39, .ref q40, .ref q41, .ref q42, .ref q43, .ref q44, .int 0, .ref q45, .ref q46, .ref q47, .ref q48, .ref q49, .int 0, .ref q50, .ref q51, .ref q52, .int 0, .int 0, .ref q53, .ref q54]))]) X in_Mo t_Mo t_Mo_ok n_Mo hP hD hS 0 rfl rfl 0 (by decide) k_1355 (Or.inl rfl) (t_Mo_ok 0 (by decide)) rfl rfl (Nat.le_of_ble_eq_true rfl) d_Mo_at_2 rfl (fun H locs hP hD hS => ?_)
  refine lv_iload_n hx hb d_Mo_at_5 rfl (lv_at hl 1 rfl) ?_
  refine lv_if_lt (tgt := 17) hx hb d_Mo_at_6 (by decide) (fun c55 => ?_) (fun c55 => ?_)
  · refine lv_iconst (v := (-1)) hx hb d_Mo_at_17 (by decide) ?_
    have hP9 := hP.sub (ws' := []) [] rfl
    have hD9 := hD.sub (ws' := []) [] (by decide) rfl
    refine W.widen (k := 0) (n := 0) (Nat.le_of_ble_eq_true rfl) (Nat.le_of_ble_eq_true rfl) ?_
    exact W.iret hx hb hr (gk_q hP9 hD9 hS ⟨rfl, rfl⟩) hS.2.2 d_Mo_at_18
  · refine lv_iload_n hx hb d_Mo_at_9 rfl (lv_at hl 1 rfl) ?_
    refine lv_aload_n hx hb d_Mo_at_10 rfl (lv_at hl 0 rfl) ?_
    refine gk_get (b := h0) (ci := 10) (v := .int 0) X in_Mo hP 0 rfl rfl 40 (by decide) k_1395 rfl d_Mo_at_11 ?_
    refine lv_icmp_lt (tgt := 19) hx hb d_Mo_at_14 (by decide) (fun c9 => absurd c9 c55) (fun _ => ?_)
    refine lv_iconst (v := (-1)) hx hb d_Mo_at_17 (by decide) ?_
    have hP9 := hP.sub (ws' := []) [] rfl
    have hD9 := hD.sub (ws' := []) [] (by decide) rfl
    refine W.widen (k := 0) (n := 0) (Nat.le_of_ble_eq_true rfl) (Nat.le_of_ble_eq_true rfl) ?_
    exact W.iret hx hb hr (gk_q hP9 hD9 hS ⟨rfl, rfl⟩) hS.2.2 d_Mo_at_18

set_option maxHeartbeats 4000000 in
set_option maxRecDepth 100000 in
theorem c_Mo_letter (l : Launch) (E : gk_E) (h0 : Nat) (q1 : Nat) (q2 : Nat) (q3 : Nat) (q4 : Nat) (q5 : Nat) (q6 : Nat) (q7 : Nat) (q8 : Nat) (q9 : Nat) (q10 : Nat) (q11 : Nat) (q12 : Nat) (q13 : Nat) (q14 : Nat) (q15 : Nat) (q16 : Nat) (q17 : Nat) (q18 : Nat) (q19 : Nat) (q20 : Nat) (q21 : Nat) (q22 : Nat) (q23 : Nat) (q24 : Nat) (q25 : Nat) (q26 : Nat) (q27 : Nat) (q28 : Nat) (q29 : Nat) (q30 : Nat) (q31 : Nat) (q32 : Nat) (q33 : Nat) (q34 : Nat) (q35 : Nat) (q36 : Nat) (q37 : Nat) (q38 : Nat) (q39 : Nat) (q40 : Nat) (q41 : Nat) (q42 : Nat) (q43 : Nat) (q44 : Nat) (q45 : Nat) (q46 : Nat) (q47 : Nat) (q48 : Nat) (q49 : Nat) (q50 : Nat) (q51 : Nat) (q52 : Nat) (q53 : Nat) (q54 : Nat) (xi : Int32) (xj : Int32) (sz : Nat) : gk_M l E y_Mo_letter b_Mo_letter 3 (some .int) 0 0 0 [.ref h0, .int xi, .int xj] [(h0, .inr (10, [.int 0, .ref q1, .ref q2, .int 0, .ref q3, .ref q4, .ref q5, .ref q6, .ref q7, .ref q8, .ref q9, .ref q10, .ref q11, .ref q12, .ref q13, .ref q14, .ref q15, .ref q16, .ref q17, .int 0, .int 0, .int 0, .int 0, .ref q18, .ref q19, .ref q20, .ref q21, .int 0, .int 0, .ref q22, .ref q23, .int 0, .int 0, .int 0, .int 0, .int 0, .int 0, .int 0, .int 0, .ref q24, .int 0, .int 0, .int 0, .int 0, .ref q25, .ref q26, .ref q27, .ref q28, .ref q29, .ref q30, .ref q31, .ref q32, .int 0, .int 0, .ref q33, .ref q34, .ref q35, .int 0, .ref q36, .ref q37, .ref q38, .ref q39, .ref q40, .ref q41, .ref q42, .ref q43, .ref q44, .int 0, .ref q45, .ref q46, .ref q47, .ref q48, .ref q49, .int 0, .ref q50, .ref q51, .ref q52, .int 0, .int 0, .ref q53, .ref q54]))] sz (fun r w => r = some (.int (-1)) ∧ w = []) := by
  refine gk_met (by decide) (Nat.le_of_ble_eq_true rfl) ?_
  intro p e s m below meth c A ls X hl hP hD hS
  have hx := X.1
  have hb := X.2.1
  have hown := X.2.2.2.1
  have hts := X.2.2.2.2.1
  have hZ := X.2.2.2.2.2.2.1
  have hr := X.2.2.2.2.2.2.2.2.1
  have hlocks : meth.locks = false := X.2.2.2.2.2.2.2.2.2.1
  have hl : lv_has ls 3 [(0, .ref h0), (1, .int xi), (2, .int xj)] := hl
  refine lv_aload_n hx hb d_Mo_letter_0 rfl (lv_at hl 0 rfl) ?_
  refine lv_iconst (v := 0) hx hb d_Mo_letter_1 (by decide) ?_
  refine gk_put (b := h0) (ci := 10) (v := .int 0) (ty := t_Mo 0) (ws' := [(h0, .inr (10, [.int 0, .ref q1, .ref q2, .int 0, .ref q3, .ref q4, .ref q5, .ref q6, .ref q7, .ref q8, .ref q9, .ref q10, .ref q11, .ref q12, .ref q13, .ref q14, .ref q15, .ref q16, .ref q17, .int 0, .int 0, .int 0, .int 0, .ref q18, .ref q19, .ref q20, .ref q21, .int 0, .int 0, .ref q22, .ref q23, .int 0, .int 0, .int 0, .int 0, .int 0, .int 0, .int 0, .int 0, .ref q24, .int 0, .int 0, .int 0, .int 0, .ref q25, .ref q26, .ref q27, .ref q28, .ref q29, .ref q30, .ref q31, .ref q32, .int 0, .int 0, .ref q33, .ref q34, .ref q35, .int 0, .ref q36, .ref q37, .ref q38, .ref q39, .ref q40, .ref q41, .ref q42, .ref q43, .ref q44, .int 0, .ref q45, .ref q46, .ref q47, .ref q48, .ref q49, .int 0, .ref q50, .ref q51, .ref q52, .int 0, .int 0, .ref q53, .ref q54]))]) X in_Mo t_Mo t_Mo_ok n_Mo hP hD hS 0 rfl rfl 0 (by decide) k_1355 (Or.inl rfl) (t_Mo_ok 0 (by decide)) rfl rfl (Nat.le_of_ble_eq_true rfl) d_Mo_letter_2 rfl (fun H locs hP hD hS => ?_)
  refine lv_iload_n hx hb d_Mo_letter_5 rfl (lv_at hl 1 rfl) ?_
  refine lv_if_lt (tgt := 31) hx hb d_Mo_letter_6 (by decide) (fun c55 => ?_) (fun c55 => ?_)
  · refine lv_iconst (v := (-1)) hx hb d_Mo_letter_31 (by decide) ?_
    refine lv_goto (tgt := 47) hx hb d_Mo_letter_32 (by decide) ?_
    have hP9 := hP.sub (ws' := []) [] rfl
    have hD9 := hD.sub (ws' := []) [] (by decide) rfl
    refine W.widen (k := 0) (n := 0) (Nat.le_of_ble_eq_true rfl) (Nat.le_of_ble_eq_true rfl) ?_
    exact W.iret hx hb hr (gk_q hP9 hD9 hS ⟨rfl, rfl⟩) hS.2.2 d_Mo_letter_47
  · refine lv_iload_n hx hb d_Mo_letter_9 rfl (lv_at hl 1 rfl) ?_
    refine lv_aload_n hx hb d_Mo_letter_10 rfl (lv_at hl 0 rfl) ?_
    refine gk_get (b := h0) (ci := 10) (v := .int 0) X in_Mo hP 0 rfl rfl 40 (by decide) k_1395 rfl d_Mo_letter_11 ?_
    refine lv_icmp_ge (tgt := 31) hx hb d_Mo_letter_14 (by decide) (fun _ => ?_) (fun c9 => absurd (Int32.not_lt.mp c55) c9)
    refine lv_iconst (v := (-1)) hx hb d_Mo_letter_31 (by decide) ?_
    refine lv_goto (tgt := 47) hx hb d_Mo_letter_32 (by decide) ?_
    have hP9 := hP.sub (ws' := []) [] rfl
    have hD9 := hD.sub (ws' := []) [] (by decide) rfl
    refine W.widen (k := 0) (n := 0) (Nat.le_of_ble_eq_true rfl) (Nat.le_of_ble_eq_true rfl) ?_
    exact W.iret hx hb hr (gk_q hP9 hD9 hS ⟨rfl, rfl⟩) hS.2.2 d_Mo_letter_47

set_option maxHeartbeats 4000000 in
set_option maxRecDepth 100000 in
theorem c_Mo_ring (l : Launch) (E : gk_E) (h0 : Nat) (q1 : Nat) (q2 : Nat) (q3 : Nat) (q4 : Nat) (q5 : Nat) (q6 : Nat) (q7 : Nat) (q8 : Nat) (q9 : Nat) (q10 : Nat) (q11 : Nat) (q12 : Nat) (q13 : Nat) (q14 : Nat) (q15 : Nat) (q16 : Nat) (q17 : Nat) (q18 : Nat) (q19 : Nat) (q20 : Nat) (q21 : Nat) (q22 : Nat) (q23 : Nat) (q24 : Nat) (q25 : Nat) (q26 : Nat) (q27 : Nat) (q28 : Nat) (q29 : Nat) (q30 : Nat) (q31 : Nat) (q32 : Nat) (q33 : Nat) (q34 : Nat) (q35 : Nat) (q36 : Nat) (q37 : Nat) (q38 : Nat) (q39 : Nat) (q40 : Nat) (q41 : Nat) (q42 : Nat) (q43 : Nat) (q44 : Nat) (q45 : Nat) (q46 : Nat) (q47 : Nat) (q48 : Nat) (q49 : Nat) (q50 : Nat) (q51 : Nat) (q52 : Nat) (q53 : Nat) (q54 : Nat) (xi : Int32) (sz : Nat) : gk_M l E y_Mo_ring b_Mo_ring 2 (some .int) 0 0 0 [.ref h0, .int xi] [(h0, .inr (10, [.int 0, .ref q1, .ref q2, .int 0, .ref q3, .ref q4, .ref q5, .ref q6, .ref q7, .ref q8, .ref q9, .ref q10, .ref q11, .ref q12, .ref q13, .ref q14, .ref q15, .ref q16, .ref q17, .int 0, .int 0, .int 0, .int 0, .ref q18, .ref q19, .ref q20, .ref q21, .int 0, .int 0, .ref q22, .ref q23, .int 0, .int 0, .int 0, .int 0, .int 0, .int 0, .int 0, .int 0, .ref q24, .int 0, .int 0, .int 0, .int 0, .ref q25, .ref q26, .ref q27, .ref q28, .ref q29, .ref q30, .ref q31, .ref q32, .int 0, .int 0, .ref q33, .ref q34, .ref q35, .int 0, .ref q36, .ref q37, .ref q38, .ref q39, .ref q40, .ref q41, .ref q42, .ref q43, .ref q44, .int 0, .ref q45, .ref q46, .ref q47, .ref q48, .ref q49, .int 0, .ref q50, .ref q51, .ref q52, .int 0, .int 0, .ref q53, .ref q54]))] sz (fun r w => r = some (.int (-1)) ∧ w = []) := by
  refine gk_met (by decide) (Nat.le_of_ble_eq_true rfl) ?_
  intro p e s m below meth c A ls X hl hP hD hS
  have hx := X.1
  have hb := X.2.1
  have hown := X.2.2.2.1
  have hts := X.2.2.2.2.1
  have hZ := X.2.2.2.2.2.2.1
  have hr := X.2.2.2.2.2.2.2.2.1
  have hlocks : meth.locks = false := X.2.2.2.2.2.2.2.2.2.1
  have hl : lv_has ls 2 [(0, .ref h0), (1, .int xi)] := hl
  refine lv_aload_n hx hb d_Mo_ring_0 rfl (lv_at hl 0 rfl) ?_
  refine lv_iconst (v := 0) hx hb d_Mo_ring_1 (by decide) ?_
  refine gk_put (b := h0) (ci := 10) (v := .int 0) (ty := t_Mo 0) (ws' := [(h0, .inr (10, [.int 0, .ref q1, .ref q2, .int 0, .ref q3, .ref q4, .ref q5, .ref q6, .ref q7, .ref q8, .ref q9, .ref q10, .ref q11, .ref q12, .ref q13, .ref q14, .ref q15, .ref q16, .ref q17, .int 0, .int 0, .int 0, .int 0, .ref q18, .ref q19, .ref q20, .ref q21, .int 0, .int 0, .ref q22, .ref q23, .int 0, .int 0, .int 0, .int 0, .int 0, .int 0, .int 0, .int 0, .ref q24, .int 0, .int 0, .int 0, .int 0, .ref q25, .ref q26, .ref q27, .ref q28, .ref q29, .ref q30, .ref q31, .ref q32, .int 0, .int 0, .ref q33, .ref q34, .ref q35, .int 0, .ref q36, .ref q37, .ref q38, .ref q39, .ref q40, .ref q41, .ref q42, .ref q43, .ref q44, .int 0, .ref q45, .ref q46, .ref q47, .ref q48, .ref q49, .int 0, .ref q50, .ref q51, .ref q52, .int 0, .int 0, .ref q53, .ref q54]))]) X in_Mo t_Mo t_Mo_ok n_Mo hP hD hS 0 rfl rfl 0 (by decide) k_1355 (Or.inl rfl) (t_Mo_ok 0 (by decide)) rfl rfl (Nat.le_of_ble_eq_true rfl) d_Mo_ring_2 rfl (fun H locs hP hD hS => ?_)
  refine lv_iload_n hx hb d_Mo_ring_5 rfl (lv_at hl 1 rfl) ?_
  refine lv_if_lt (tgt := 17) hx hb d_Mo_ring_6 (by decide) (fun c55 => ?_) (fun c55 => ?_)
  · refine lv_iconst (v := (-1)) hx hb d_Mo_ring_17 (by decide) ?_
    refine lv_goto (tgt := 27) hx hb d_Mo_ring_18 (by decide) ?_
    have hP9 := hP.sub (ws' := []) [] rfl
    have hD9 := hD.sub (ws' := []) [] (by decide) rfl
    refine W.widen (k := 0) (n := 0) (Nat.le_of_ble_eq_true rfl) (Nat.le_of_ble_eq_true rfl) ?_
    exact W.iret hx hb hr (gk_q hP9 hD9 hS ⟨rfl, rfl⟩) hS.2.2 d_Mo_ring_27
  · refine lv_iload_n hx hb d_Mo_ring_9 rfl (lv_at hl 1 rfl) ?_
    refine lv_aload_n hx hb d_Mo_ring_10 rfl (lv_at hl 0 rfl) ?_
    refine gk_get (b := h0) (ci := 10) (v := .int 0) X in_Mo hP 0 rfl rfl 42 (by decide) k_1397 rfl d_Mo_ring_11 ?_
    refine lv_icmp_lt (tgt := 21) hx hb d_Mo_ring_14 (by decide) (fun c9 => absurd c9 c55) (fun _ => ?_)
    refine lv_iconst (v := (-1)) hx hb d_Mo_ring_17 (by decide) ?_
    refine lv_goto (tgt := 27) hx hb d_Mo_ring_18 (by decide) ?_
    have hP9 := hP.sub (ws' := []) [] rfl
    have hD9 := hD.sub (ws' := []) [] (by decide) rfl
    refine W.widen (k := 0) (n := 0) (Nat.le_of_ble_eq_true rfl) (Nat.le_of_ble_eq_true rfl) ?_
    exact W.iret hx hb hr (gk_q hP9 hD9 hS ⟨rfl, rfl⟩) hS.2.2 d_Mo_ring_27

set_option maxHeartbeats 4000000 in
set_option maxRecDepth 100000 in
theorem c_Mo_split (l : Launch) (E : gk_E) (h0 : Nat) (q1 : Nat) (q2 : Nat) (q3 : Nat) (q4 : Nat) (q5 : Nat) (q6 : Nat) (q7 : Nat) (q8 : Nat) (q9 : Nat) (q10 : Nat) (q11 : Nat) (q12 : Nat) (q13 : Nat) (q14 : Nat) (q15 : Nat) (q16 : Nat) (q17 : Nat) (q18 : Nat) (q19 : Nat) (q20 : Nat) (q21 : Nat) (q22 : Nat) (q23 : Nat) (q24 : Nat) (q25 : Nat) (q26 : Nat) (q27 : Nat) (q28 : Nat) (q29 : Nat) (q30 : Nat) (q31 : Nat) (q32 : Nat) (q33 : Nat) (q34 : Nat) (q35 : Nat) (q36 : Nat) (q37 : Nat) (q38 : Nat) (q39 : Nat) (q40 : Nat) (q41 : Nat) (q42 : Nat) (q43 : Nat) (q44 : Nat) (q45 : Nat) (q46 : Nat) (q47 : Nat) (q48 : Nat) (q49 : Nat) (q50 : Nat) (q51 : Nat) (q52 : Nat) (q53 : Nat) (q54 : Nat) (sz : Nat) : gk_M l E y_Mo_split b_Mo_split 4 (none) 0 0 0 [.ref h0, .int 0] [(h0, .inr (10, [.int 0, .ref q1, .ref q2, .int 0, .ref q3, .ref q4, .ref q5, .ref q6, .ref q7, .ref q8, .ref q9, .ref q10, .ref q11, .ref q12, .ref q13, .ref q14, .ref q15, .ref q16, .ref q17, .int 0, .int 0, .int 0, .int 0, .ref q18, .ref q19, .ref q20, .ref q21, .int 0, .int 0, .ref q22, .ref q23, .int 0, .int 0, .int 0, .int 0, .int 0, .int 0, .int 0, .int 0, .ref q24, .int 0, .int 0, .int 0, .int 0, .ref q25, .ref q26, .ref q27, .ref q28, .ref q29, .ref q30, .ref q31, .ref q32, .int 0, .int 0, .ref q33, .ref q34, .ref q35, .int 0, .ref q36, .ref q37, .ref q38, .ref q39, .ref q40, .ref q41, .ref q42, .ref q43, .ref q44, .int 0, .ref q45, .ref q46, .ref q47, .ref q48, .ref q49, .int 0, .ref q50, .ref q51, .ref q52, .int 0, .int 0, .ref q53, .ref q54]))] sz (fun r w => r = none ∧ w = [(h0, .inr (10, [.int 0, .ref q1, .ref q2, .int 0, .ref q3, .ref q4, .ref q5, .ref q6, .ref q7, .ref q8, .ref q9, .ref q10, .ref q11, .ref q12, .ref q13, .ref q14, .ref q15, .ref q16, .ref q17, .int 0, .int 0, .int 0, .int 0, .ref q18, .ref q19, .ref q20, .ref q21, .int 0, .int 0, .ref q22, .ref q23, .int 0, .int 0, .int 0, .int 0, .int 0, .int 0, .int 0, .int 0, .ref q24, .int 0, .int 0, .int 0, .int 0, .ref q25, .ref q26, .ref q27, .ref q28, .ref q29, .ref q30, .ref q31, .ref q32, .int 0, .int 0, .ref q33, .ref q34, .ref q35, .int 0, .ref q36, .ref q37, .ref q38, .ref q39, .ref q40, .ref q41, .ref q42, .ref q43, .ref q44, .int 0, .ref q45, .ref q46, .ref q47, .ref q48, .ref q49, .int 0, .ref q50, .ref q51, .ref q52, .int 0, .int 0, .ref q53, .ref q54]))]) := by
  refine gk_met (by decide) (Nat.le_of_ble_eq_true rfl) ?_
  intro p e s m below meth c A ls X hl hP hD hS
  have hx := X.1
  have hb := X.2.1
  have hown := X.2.2.2.1
  have hts := X.2.2.2.2.1
  have hZ := X.2.2.2.2.2.2.1
  have hr := X.2.2.2.2.2.2.2.2.1
  have hlocks : meth.locks = false := X.2.2.2.2.2.2.2.2.2.1
  have hl : lv_has ls 4 [(0, .ref h0), (1, .int 0)] := hl
  refine lv_aload_n hx hb d_Mo_split_0 rfl (lv_at hl 0 rfl) ?_
  refine lv_iconst (v := 0) hx hb d_Mo_split_1 (by decide) ?_
  refine gk_put (b := h0) (ci := 10) (v := .int 0) (ty := t_Mo 27) (ws' := [(h0, .inr (10, [.int 0, .ref q1, .ref q2, .int 0, .ref q3, .ref q4, .ref q5, .ref q6, .ref q7, .ref q8, .ref q9, .ref q10, .ref q11, .ref q12, .ref q13, .ref q14, .ref q15, .ref q16, .ref q17, .int 0, .int 0, .int 0, .int 0, .ref q18, .ref q19, .ref q20, .ref q21, .int 0, .int 0, .ref q22, .ref q23, .int 0, .int 0, .int 0, .int 0, .int 0, .int 0, .int 0, .int 0, .ref q24, .int 0, .int 0, .int 0, .int 0, .ref q25, .ref q26, .ref q27, .ref q28, .ref q29, .ref q30, .ref q31, .ref q32, .int 0, .int 0, .ref q33, .ref q34, .ref q35, .int 0, .ref q36, .ref q37, .ref q38, .ref q39, .ref q40, .ref q41, .ref q42, .ref q43, .ref q44, .int 0, .ref q45, .ref q46, .ref q47, .ref q48, .ref q49, .int 0, .ref q50, .ref q51, .ref q52, .int 0, .int 0, .ref q53, .ref q54]))]) X in_Mo t_Mo t_Mo_ok n_Mo hP hD hS 0 rfl rfl 27 (by decide) k_1382 (Or.inl rfl) (t_Mo_ok 27 (by decide)) rfl rfl (Nat.le_of_ble_eq_true rfl) d_Mo_split_2 rfl (fun H locs hP hD hS => ?_)
  refine lv_iconst (v := 0) hx hb d_Mo_split_5 (by decide) ?_
  refine lv_istore_n (lv' := [(2, .int 0), (0, .ref h0), (1, .int 0)]) hx hb d_Mo_split_6 rfl hl (by decide) rfl (fun ls hl => ?_)
  refine lv_iload_n hx hb d_Mo_split_7 rfl (lv_at hl 0 rfl) ?_
  refine lv_iload_n hx hb d_Mo_split_8 rfl (lv_at hl 2 rfl) ?_
  refine lv_icmp_ge (tgt := 88) hx hb d_Mo_split_9 (by decide) (fun _ => ?_) (fun c9 => absurd (by decide) c9)
  have hP9 := hP.sub (ws' := [(h0, .inr (10, [.int 0, .ref q1, .ref q2, .int 0, .ref q3, .ref q4, .ref q5, .ref q6, .ref q7, .ref q8, .ref q9, .ref q10, .ref q11, .ref q12, .ref q13, .ref q14, .ref q15, .ref q16, .ref q17, .int 0, .int 0, .int 0, .int 0, .ref q18, .ref q19, .ref q20, .ref q21, .int 0, .int 0, .ref q22, .ref q23, .int 0, .int 0, .int 0, .int 0, .int 0, .int 0, .int 0, .int 0, .ref q24, .int 0, .int 0, .int 0, .int 0, .ref q25, .ref q26, .ref q27, .ref q28, .ref q29, .ref q30, .ref q31, .ref q32, .int 0, .int 0, .ref q33, .ref q34, .ref q35, .int 0, .ref q36, .ref q37, .ref q38, .ref q39, .ref q40, .ref q41, .ref q42, .ref q43, .ref q44, .int 0, .ref q45, .ref q46, .ref q47, .ref q48, .ref q49, .int 0, .ref q50, .ref q51, .ref q52, .int 0, .int 0, .ref q53, .ref q54]))]) [0] rfl
  have hD9 := hD.sub (ws' := [(h0, .inr (10, [.int 0, .ref q1, .ref q2, .int 0, .ref q3, .ref q4, .ref q5, .ref q6, .ref q7, .ref q8, .ref q9, .ref q10, .ref q11, .ref q12, .ref q13, .ref q14, .ref q15, .ref q16, .ref q17, .int 0, .int 0, .int 0, .int 0, .ref q18, .ref q19, .ref q20, .ref q21, .int 0, .int 0, .ref q22, .ref q23, .int 0, .int 0, .int 0, .int 0, .int 0, .int 0, .int 0, .int 0, .ref q24, .int 0, .int 0, .int 0, .int 0, .ref q25, .ref q26, .ref q27, .ref q28, .ref q29, .ref q30, .ref q31, .ref q32, .int 0, .int 0, .ref q33, .ref q34, .ref q35, .int 0, .ref q36, .ref q37, .ref q38, .ref q39, .ref q40, .ref q41, .ref q42, .ref q43, .ref q44, .int 0, .ref q45, .ref q46, .ref q47, .ref q48, .ref q49, .int 0, .ref q50, .ref q51, .ref q52, .int 0, .int 0, .ref q53, .ref q54]))]) [0] (by decide) rfl
  refine W.widen (k := 0) (n := 0) (Nat.le_of_ble_eq_true rfl) (Nat.le_of_ble_eq_true rfl) ?_
  exact W.vret hx hb hr (gk_q hP9 hD9 hS ⟨rfl, rfl⟩) hS.2.2 d_Mo_split_88

set_option maxHeartbeats 4000000 in
set_option maxRecDepth 100000 in
theorem c_Mo_count (l : Launch) (E : gk_E) (h0 : Nat) (q1 : Nat) (q2 : Nat) (q3 : Nat) (q4 : Nat) (q5 : Nat) (q6 : Nat) (q7 : Nat) (q8 : Nat) (q9 : Nat) (q10 : Nat) (q11 : Nat) (q12 : Nat) (q13 : Nat) (q14 : Nat) (q15 : Nat) (q16 : Nat) (q17 : Nat) (q18 : Nat) (q19 : Nat) (q20 : Nat) (q21 : Nat) (q22 : Nat) (q23 : Nat) (q24 : Nat) (q25 : Nat) (q26 : Nat) (q27 : Nat) (q28 : Nat) (q29 : Nat) (q30 : Nat) (q31 : Nat) (q32 : Nat) (q33 : Nat) (q34 : Nat) (q35 : Nat) (q36 : Nat) (q37 : Nat) (q38 : Nat) (q39 : Nat) (q40 : Nat) (q41 : Nat) (q42 : Nat) (q43 : Nat) (q44 : Nat) (q45 : Nat) (q46 : Nat) (q47 : Nat) (q48 : Nat) (q49 : Nat) (q50 : Nat) (q51 : Nat) (q52 : Nat) (q53 : Nat) (q54 : Nat) (xi : Int32) (sz : Nat) : gk_M l E y_Mo_count b_Mo_count 2 (some .int) 0 0 0 [.ref h0, .int xi] [(h0, .inr (10, [.int 0, .ref q1, .ref q2, .int 0, .ref q3, .ref q4, .ref q5, .ref q6, .ref q7, .ref q8, .ref q9, .ref q10, .ref q11, .ref q12, .ref q13, .ref q14, .ref q15, .ref q16, .ref q17, .int 0, .int 0, .int 0, .int 0, .ref q18, .ref q19, .ref q20, .ref q21, .int 0, .int 0, .ref q22, .ref q23, .int 0, .int 0, .int 0, .int 0, .int 0, .int 0, .int 0, .int 0, .ref q24, .int 0, .int 0, .int 0, .int 0, .ref q25, .ref q26, .ref q27, .ref q28, .ref q29, .ref q30, .ref q31, .ref q32, .int 0, .int 0, .ref q33, .ref q34, .ref q35, .int 0, .ref q36, .ref q37, .ref q38, .ref q39, .ref q40, .ref q41, .ref q42, .ref q43, .ref q44, .int 0, .ref q45, .ref q46, .ref q47, .ref q48, .ref q49, .int 0, .ref q50, .ref q51, .ref q52, .int 0, .int 0, .ref q53, .ref q54])), (q3, .inl (E.2.1 0, 13, .inl (fun _ => 0)))] sz (fun r w => r = some (.int (gk_cnt xi)) ∧ w = []) := by
  refine gk_met (by decide) (Nat.le_of_ble_eq_true rfl) ?_
  intro p e s m below meth c A ls X hl hP hD hS
  have hx := X.1
  have hb := X.2.1
  have hown := X.2.2.2.1
  have hts := X.2.2.2.2.1
  have hZ := X.2.2.2.2.2.2.1
  have hr := X.2.2.2.2.2.2.2.2.1
  have hlocks : meth.locks = false := X.2.2.2.2.2.2.2.2.2.1
  have hl : lv_has ls 2 [(0, .ref h0), (1, .int xi)] := hl
  refine lv_aload_n hx hb d_Mo_count_0 rfl (lv_at hl 0 rfl) ?_
  refine lv_iconst (v := 0) hx hb d_Mo_count_1 (by decide) ?_
  refine gk_put (b := h0) (ci := 10) (v := .int 0) (ty := t_Mo 0) (ws' := [(h0, .inr (10, [.int 0, .ref q1, .ref q2, .int 0, .ref q3, .ref q4, .ref q5, .ref q6, .ref q7, .ref q8, .ref q9, .ref q10, .ref q11, .ref q12, .ref q13, .ref q14, .ref q15, .ref q16, .ref q17, .int 0, .int 0, .int 0, .int 0, .ref q18, .ref q19, .ref q20, .ref q21, .int 0, .int 0, .ref q22, .ref q23, .int 0, .int 0, .int 0, .int 0, .int 0, .int 0, .int 0, .int 0, .ref q24, .int 0, .int 0, .int 0, .int 0, .ref q25, .ref q26, .ref q27, .ref q28, .ref q29, .ref q30, .ref q31, .ref q32, .int 0, .int 0, .ref q33, .ref q34, .ref q35, .int 0, .ref q36, .ref q37, .ref q38, .ref q39, .ref q40, .ref q41, .ref q42, .ref q43, .ref q44, .int 0, .ref q45, .ref q46, .ref q47, .ref q48, .ref q49, .int 0, .ref q50, .ref q51, .ref q52, .int 0, .int 0, .ref q53, .ref q54])), (q3, .inl (E.2.1 0, 13, .inl (fun _ => 0)))]) X in_Mo t_Mo t_Mo_ok n_Mo hP hD hS 0 rfl rfl 0 (by decide) k_1355 (Or.inl rfl) (t_Mo_ok 0 (by decide)) rfl rfl (Nat.le_of_ble_eq_true rfl) d_Mo_count_2 rfl (fun H locs hP hD hS => ?_)
  refine lv_iload_n hx hb d_Mo_count_5 rfl (lv_at hl 1 rfl) ?_
  by_cases c55 : xi.toInt < 0 ∨ 6 < xi.toInt
  · refine lv_tableOut (tgt := 93) hx hb d_Mo_count_6 c55 (by decide) ?_
    refine lv_iconst (v := (-1)) hx hb d_Mo_count_93 (by decide) ?_
    have hP9 := hP.sub (ws' := []) [] rfl
    have hD9 := hD.sub (ws' := []) [] (by decide) rfl
    refine W.widen (k := 0) (n := 0) (Nat.le_of_ble_eq_true rfl) (Nat.le_of_ble_eq_true rfl) ?_
    exact W.iret hx hb hr (gk_q hP9 hD9 hS ⟨by rw [gk_cnt, if_pos c55], rfl⟩) hS.2.2 d_Mo_count_94
  · rcases gk_sw6 c55 with rfl | rfl | rfl | rfl | rfl | rfl | rfl
    · refine lv_tableIn (tgt := 48) (off := 42) hx hb d_Mo_count_6 (by decide) (by decide) (by decide) (by decide) ?_
      refine lv_aload_n hx hb d_Mo_count_48 rfl (lv_at hl 0 rfl) ?_
      refine gk_get (b := h0) (ci := 10) (v := .int 0) X in_Mo hP 0 rfl rfl 3 (by decide) k_1358 rfl d_Mo_count_49 ?_
      have hP9 := hP.sub (ws' := []) [] rfl
      have hD9 := hD.sub (ws' := []) [] (by decide) rfl
      refine W.widen (k := 0) (n := 0) (Nat.le_of_ble_eq_true rfl) (Nat.le_of_ble_eq_true rfl) ?_
      exact W.iret hx hb hr (gk_q hP9 hD9 hS ⟨rfl, rfl⟩) hS.2.2 d_Mo_count_52
    · refine lv_tableIn (tgt := 53) (off := 47) hx hb d_Mo_count_6 (by decide) (by decide) (by decide) (by decide) ?_
      refine lv_aload_n hx hb d_Mo_count_53 rfl (lv_at hl 0 rfl) ?_
      refine gk_get (b := h0) (ci := 10) (v := .int 0) X in_Mo hP 0 rfl rfl 20 (by decide) k_1375 rfl d_Mo_count_54 ?_
      have hP9 := hP.sub (ws' := []) [] rfl
      have hD9 := hD.sub (ws' := []) [] (by decide) rfl
      refine W.widen (k := 0) (n := 0) (Nat.le_of_ble_eq_true rfl) (Nat.le_of_ble_eq_true rfl) ?_
      exact W.iret hx hb hr (gk_q hP9 hD9 hS ⟨rfl, rfl⟩) hS.2.2 d_Mo_count_57
    · refine lv_tableIn (tgt := 58) (off := 52) hx hb d_Mo_count_6 (by decide) (by decide) (by decide) (by decide) ?_
      refine lv_aload_n hx hb d_Mo_count_58 rfl (lv_at hl 0 rfl) ?_
      refine gk_get (b := h0) (ci := 10) (v := .ref q3) X in_Mo hP 0 rfl rfl 4 (by decide) k_1359 rfl d_Mo_count_59 ?_
      refine lv_iconst (v := 0) hx hb d_Mo_count_62 (by decide) ?_
      refine va_iald hx hb X.2.2.2.2.2.1.1 hP 1 0 rfl rfl (i := 0) (by unfold vp_in; decide) d_Mo_count_63 ?_
      have hP9 := hP.sub (ws' := []) [] rfl
      have hD9 := hD.sub (ws' := []) [] (by decide) rfl
      refine W.widen (k := 0) (n := 0) (Nat.le_of_ble_eq_true rfl) (Nat.le_of_ble_eq_true rfl) ?_
      exact W.iret hx hb hr (gk_q hP9 hD9 hS ⟨rfl, rfl⟩) hS.2.2 d_Mo_count_64
    · refine lv_tableIn (tgt := 65) (off := 59) hx hb d_Mo_count_6 (by decide) (by decide) (by decide) (by decide) ?_
      refine lv_aload_n hx hb d_Mo_count_65 rfl (lv_at hl 0 rfl) ?_
      refine gk_get (b := h0) (ci := 10) (v := .int 0) X in_Mo hP 0 rfl rfl 22 (by decide) k_1377 rfl d_Mo_count_66 ?_
      have hP9 := hP.sub (ws' := []) [] rfl
      have hD9 := hD.sub (ws' := []) [] (by decide) rfl
      refine W.widen (k := 0) (n := 0) (Nat.le_of_ble_eq_true rfl) (Nat.le_of_ble_eq_true rfl) ?_
      exact W.iret hx hb hr (gk_q hP9 hD9 hS ⟨rfl, rfl⟩) hS.2.2 d_Mo_count_69
    · refine lv_tableIn (tgt := 70) (off := 64) hx hb d_Mo_count_6 (by decide) (by decide) (by decide) (by decide) ?_
      refine lv_aload_n hx hb d_Mo_count_70 rfl (lv_at hl 0 rfl) ?_
      refine gk_get (b := h0) (ci := 10) (v := .int 0) X in_Mo hP 0 rfl rfl 40 (by decide) k_1395 rfl d_Mo_count_71 ?_
      have hP9 := hP.sub (ws' := []) [] rfl
      have hD9 := hD.sub (ws' := []) [] (by decide) rfl
      refine W.widen (k := 0) (n := 0) (Nat.le_of_ble_eq_true rfl) (Nat.le_of_ble_eq_true rfl) ?_
      exact W.iret hx hb hr (gk_q hP9 hD9 hS ⟨rfl, rfl⟩) hS.2.2 d_Mo_count_74
    · refine lv_tableIn (tgt := 75) (off := 69) hx hb d_Mo_count_6 (by decide) (by decide) (by decide) (by decide) ?_
      refine lv_aload_n hx hb d_Mo_count_75 rfl (lv_at hl 0 rfl) ?_
      refine gk_get (b := h0) (ci := 10) (v := .int 0) X in_Mo hP 0 rfl rfl 41 (by decide) k_1396 rfl d_Mo_count_76 ?_
      have hP9 := hP.sub (ws' := []) [] rfl
      have hD9 := hD.sub (ws' := []) [] (by decide) rfl
      refine W.widen (k := 0) (n := 0) (Nat.le_of_ble_eq_true rfl) (Nat.le_of_ble_eq_true rfl) ?_
      exact W.iret hx hb hr (gk_q hP9 hD9 hS ⟨rfl, rfl⟩) hS.2.2 d_Mo_count_79
    · refine lv_tableIn (tgt := 80) (off := 74) hx hb d_Mo_count_6 (by decide) (by decide) (by decide) (by decide) ?_
      refine lv_aload_n hx hb d_Mo_count_80 rfl (lv_at hl 0 rfl) ?_
      refine gk_get (b := h0) (ci := 10) (v := .int 0) X in_Mo hP 0 rfl rfl 21 (by decide) k_1376 rfl d_Mo_count_81 ?_
      refine lv_if_eq (tgt := 91) hx hb d_Mo_count_84 (by decide) (fun _ => ?_) (fun c9 => absurd (by decide) c9)
      refine lv_iconst (v := 0) hx hb d_Mo_count_91 (by decide) ?_
      have hP9 := hP.sub (ws' := []) [] rfl
      have hD9 := hD.sub (ws' := []) [] (by decide) rfl
      refine W.widen (k := 0) (n := 0) (Nat.le_of_ble_eq_true rfl) (Nat.le_of_ble_eq_true rfl) ?_
      exact W.iret hx hb hr (gk_q hP9 hD9 hS ⟨rfl, rfl⟩) hS.2.2 d_Mo_count_92

set_option maxHeartbeats 4000000 in
set_option maxRecDepth 100000 in
theorem c_Mo_keep_0 (l : Launch) (E : gk_E) (q3 : Nat) (h0 : Nat) (q1 : Nat) (q2 : Nat) (q4 : Nat) (q5 : Nat) (q6 : Nat) (q7 : Nat) (q8 : Nat) (q9 : Nat) (q10 : Nat) (q11 : Nat) (q12 : Nat) (q13 : Nat) (q14 : Nat) (q15 : Nat) (q16 : Nat) (q17 : Nat) (q18 : Nat) (q19 : Nat) (q20 : Nat) (q21 : Nat) (q22 : Nat) (q23 : Nat) (q24 : Nat) (q25 : Nat) (q26 : Nat) (q27 : Nat) (q28 : Nat) (q29 : Nat) (q30 : Nat) (q31 : Nat) (q32 : Nat) (q33 : Nat) (q34 : Nat) (q35 : Nat) (q36 : Nat) (q37 : Nat) (q38 : Nat) (q39 : Nat) (q40 : Nat) (q41 : Nat) (q42 : Nat) (q43 : Nat) (q44 : Nat) (q45 : Nat) (q46 : Nat) (q47 : Nat) (q48 : Nat) (q49 : Nat) (q50 : Nat) (q51 : Nat) (q52 : Nat) (q53 : Nat) (q54 : Nat) (sz : Nat) : gk_M l E y_Mo_keep b_Mo_keep 4 (some .boolean) 0 0 0 [.ref h0] [(q3, .inl (E.2.1 0, 13, .inl (fun _ => 0))), (h0, .inr (10, [.int 0, .ref q1, .ref q2, .int 0, .ref q3, .ref q4, .ref q5, .ref q6, .ref q7, .ref q8, .ref q9, .ref q10, .ref q11, .ref q12, .ref q13, .ref q14, .ref q15, .ref q16, .ref q17, .int 0, .int 0, .int 0, .int 0, .ref q18, .ref q19, .ref q20, .ref q21, .int 0, .int 0, .ref q22, .ref q23, .int 0, .int 0, .int 0, .int (-1), .int (-1), .int (-1), .int 0, .int 0, .ref q24, .int 0, .int 0, .int 0, .int 0, .ref q25, .ref q26, .ref q27, .ref q28, .ref q29, .ref q30, .ref q31, .ref q32, .int 0, .int 0, .ref q33, .ref q34, .ref q35, .int 0, .ref q36, .ref q37, .ref q38, .ref q39, .ref q40, .ref q41, .ref q42, .ref q43, .ref q44, .int 0, .ref q45, .ref q46, .ref q47, .ref q48, .ref q49, .int 0, .ref q50, .ref q51, .ref q52, .int 0, .int 0, .ref q53, .ref q54]))] sz (fun r w => r = some (.int 1) ∧ w = [(q3, .inl (E.2.1 0, 13, .inl (fun _ => 0))), (h0, .inr (10, [.int 0, .ref q1, .ref q2, .int 0, .ref q3, .ref q4, .ref q5, .ref q6, .ref q7, .ref q8, .ref q9, .ref q10, .ref q11, .ref q12, .ref q13, .ref q14, .ref q15, .ref q16, .ref q17, .int 0, .int 0, .int 0, .int 0, .ref q18, .ref q19, .ref q20, .ref q21, .int 0, .int 0, .ref q22, .ref q23, .int 0, .int 0, .int 0, .int (-1), .int (-1), .int (-1), .int 0, .int 0, .ref q24, .int 0, .int 0, .int 0, .int 0, .ref q25, .ref q26, .ref q27, .ref q28, .ref q29, .ref q30, .ref q31, .ref q32, .int 0, .int 0, .ref q33, .ref q34, .ref q35, .int 0, .ref q36, .ref q37, .ref q38, .ref q39, .ref q40, .ref q41, .ref q42, .ref q43, .ref q44, .int 0, .ref q45, .ref q46, .ref q47, .ref q48, .ref q49, .int 0, .ref q50, .ref q51, .ref q52, .int 0, .int 0, .ref q53, .ref q54]))]) := by
  refine gk_met (by decide) (Nat.le_of_ble_eq_true rfl) ?_
  intro p e s m below meth c A ls X hl hP hD hS
  have hx := X.1
  have hb := X.2.1
  have hown := X.2.2.2.1
  have hts := X.2.2.2.2.1
  have hZ := X.2.2.2.2.2.2.1
  have hr := X.2.2.2.2.2.2.2.2.1
  have hlocks : meth.locks = false := X.2.2.2.2.2.2.2.2.2.1
  have hl : lv_has ls 4 [(0, .ref h0)] := hl
  refine lv_iconst (v := 0) hx hb d_Mo_keep_0 (by decide) ?_
  refine lv_istore_n (lv' := [(1, .int 0), (0, .ref h0)]) hx hb d_Mo_keep_1 rfl hl (by decide) rfl (fun ls hl => ?_)
  refine lv_iconst (v := 0) hx hb d_Mo_keep_2 (by decide) ?_
  refine lv_istore_n (lv' := [(2, .int 0), (1, .int 0), (0, .ref h0)]) hx hb d_Mo_keep_3 rfl hl (by decide) rfl (fun ls hl => ?_)
  refine lv_iload_n hx hb d_Mo_keep_4 rfl (lv_at hl 0 rfl) ?_
  refine lv_aload_n hx hb d_Mo_keep_5 rfl (lv_at hl 2 rfl) ?_
  refine gk_get (b := h0) (ci := 10) (v := .ref q3) X in_Mo hP 1 rfl rfl 4 (by decide) k_1359 rfl d_Mo_keep_6 ?_
  refine lv_iconst (v := 0) hx hb d_Mo_keep_9 (by decide) ?_
  refine va_iald hx hb X.2.2.2.2.2.1.1 hP 0 0 rfl rfl (i := 0) (by unfold vp_in; decide) d_Mo_keep_10 ?_
  refine lv_icmp_ge (tgt := 46) hx hb d_Mo_keep_11 (by decide) (fun _ => ?_) (fun c9 => absurd (by decide) c9)
  refine lv_aload_n hx hb d_Mo_keep_46 rfl (lv_at hl 2 rfl) ?_
  refine gk_get (b := h0) (ci := 10) (v := .int 0) X in_Mo hP 1 rfl rfl 20 (by decide) k_1375 rfl d_Mo_keep_47 ?_
  refine lv_iload_n hx hb d_Mo_keep_50 rfl (lv_at hl 1 rfl) ?_
  refine lv_iadd hx hb d_Mo_keep_51 ?_
  refine lv_topi (fun x55 ex55 => ?_)
  obtain rfl : x55 = (0 : Int32) := ex55.trans (by decide)
  refine lv_bipush (v := 12) hx hb d_Mo_keep_52 (by decide) ?_
  refine lv_icmp_le (tgt := 59) hx hb d_Mo_keep_54 (by decide) (fun _ => ?_) (fun c9 => absurd (by decide) c9)
  refine lv_iconst (v := 0) hx hb d_Mo_keep_59 (by decide) ?_
  refine lv_istore_n (lv' := [(2, .int 0), (1, .int 0), (0, .ref h0)]) hx hb d_Mo_keep_60 rfl hl (by decide) rfl (fun ls hl => ?_)
  refine lv_iload_n hx hb d_Mo_keep_61 rfl (lv_at hl 0 rfl) ?_
  refine lv_aload_n hx hb d_Mo_keep_62 rfl (lv_at hl 2 rfl) ?_
  refine gk_get (b := h0) (ci := 10) (v := .ref q3) X in_Mo hP 1 rfl rfl 4 (by decide) k_1359 rfl d_Mo_keep_63 ?_
  refine lv_iconst (v := 0) hx hb d_Mo_keep_66 (by decide) ?_
  refine va_iald hx hb X.2.2.2.2.2.1.1 hP 0 0 rfl rfl (i := 0) (by unfold vp_in; decide) d_Mo_keep_67 ?_
  refine lv_icmp_ge (tgt := 121) hx hb d_Mo_keep_68 (by decide) (fun _ => ?_) (fun c9 => absurd (by decide) c9)
  refine lv_iconst (v := 1) hx hb d_Mo_keep_121 (by decide) ?_
  have hP9 := hP.sub (ws' := [(q3, .inl (E.2.1 0, 13, .inl (fun _ => 0))), (h0, .inr (10, [.int 0, .ref q1, .ref q2, .int 0, .ref q3, .ref q4, .ref q5, .ref q6, .ref q7, .ref q8, .ref q9, .ref q10, .ref q11, .ref q12, .ref q13, .ref q14, .ref q15, .ref q16, .ref q17, .int 0, .int 0, .int 0, .int 0, .ref q18, .ref q19, .ref q20, .ref q21, .int 0, .int 0, .ref q22, .ref q23, .int 0, .int 0, .int 0, .int (-1), .int (-1), .int (-1), .int 0, .int 0, .ref q24, .int 0, .int 0, .int 0, .int 0, .ref q25, .ref q26, .ref q27, .ref q28, .ref q29, .ref q30, .ref q31, .ref q32, .int 0, .int 0, .ref q33, .ref q34, .ref q35, .int 0, .ref q36, .ref q37, .ref q38, .ref q39, .ref q40, .ref q41, .ref q42, .ref q43, .ref q44, .int 0, .ref q45, .ref q46, .ref q47, .ref q48, .ref q49, .int 0, .ref q50, .ref q51, .ref q52, .int 0, .int 0, .ref q53, .ref q54]))]) [0, 1] rfl
  have hD9 := hD.sub (ws' := [(q3, .inl (E.2.1 0, 13, .inl (fun _ => 0))), (h0, .inr (10, [.int 0, .ref q1, .ref q2, .int 0, .ref q3, .ref q4, .ref q5, .ref q6, .ref q7, .ref q8, .ref q9, .ref q10, .ref q11, .ref q12, .ref q13, .ref q14, .ref q15, .ref q16, .ref q17, .int 0, .int 0, .int 0, .int 0, .ref q18, .ref q19, .ref q20, .ref q21, .int 0, .int 0, .ref q22, .ref q23, .int 0, .int 0, .int 0, .int (-1), .int (-1), .int (-1), .int 0, .int 0, .ref q24, .int 0, .int 0, .int 0, .int 0, .ref q25, .ref q26, .ref q27, .ref q28, .ref q29, .ref q30, .ref q31, .ref q32, .int 0, .int 0, .ref q33, .ref q34, .ref q35, .int 0, .ref q36, .ref q37, .ref q38, .ref q39, .ref q40, .ref q41, .ref q42, .ref q43, .ref q44, .int 0, .ref q45, .ref q46, .ref q47, .ref q48, .ref q49, .int 0, .ref q50, .ref q51, .ref q52, .int 0, .int 0, .ref q53, .ref q54]))]) [0, 1] (by decide) rfl
  refine W.widen (k := 0) (n := 0) (Nat.le_of_ble_eq_true rfl) (Nat.le_of_ble_eq_true rfl) ?_
  exact W.zret hx hb hr (by decide) (gk_q hP9 hD9 hS ⟨rfl, rfl⟩) hS.2.2 d_Mo_keep_122
set_option maxHeartbeats 4000000 in
set_option maxRecDepth 100000 in
theorem c_Mo_read (l : Launch) (E : gk_E) (h0 : Nat) (q1 : Nat) (q2 : Nat) (q3 : Nat) (q4 : Nat) (q5 : Nat) (q6 : Nat) (q7 : Nat) (q8 : Nat) (q9 : Nat) (q10 : Nat) (q11 : Nat) (q12 : Nat) (q13 : Nat) (q14 : Nat) (q15 : Nat) (q16 : Nat) (q17 : Nat) (q18 : Nat) (q19 : Nat) (q20 : Nat) (q21 : Nat) (q22 : Nat) (q23 : Nat) (q24 : Nat) (q25 : Nat) (q26 : Nat) (q27 : Nat) (q28 : Nat) (q29 : Nat) (q30 : Nat) (q31 : Nat) (q32 : Nat) (q33 : Nat) (q34 : Nat) (q35 : Nat) (q36 : Nat) (q37 : Nat) (q38 : Nat) (q39 : Nat) (q40 : Nat) (q41 : Nat) (q42 : Nat) (q43 : Nat) (q44 : Nat) (q45 : Nat) (q46 : Nat) (q47 : Nat) (q48 : Nat) (q49 : Nat) (q50 : Nat) (q51 : Nat) (q52 : Nat) (q53 : Nat) (q54 : Nat) (sz : Nat) : gk_M l E y_Mo_read b_Mo_read 2 (some .int) 1 0 0 [.ref h0] [(h0, .inr (10, [.int 0, .ref q1, .ref q2, .int 0, .ref q3, .ref q4, .ref q5, .ref q6, .ref q7, .ref q8, .ref q9, .ref q10, .ref q11, .ref q12, .ref q13, .ref q14, .ref q15, .ref q16, .ref q17, .int 0, .int 0, .int 0, .int 0, .ref q18, .ref q19, .ref q20, .ref q21, .int 0, .int 0, .ref q22, .ref q23, .int 0, .int 0, .int 0, .int 0, .int 0, .int 0, .int 0, .int 0, .ref q24, .int 0, .int 0, .int 0, .int 0, .ref q25, .ref q26, .ref q27, .ref q28, .ref q29, .ref q30, .ref q31, .ref q32, .int 0, .int 0, .ref q33, .ref q34, .ref q35, .int 0, .ref q36, .ref q37, .ref q38, .ref q39, .ref q40, .ref q41, .ref q42, .ref q43, .ref q44, .int 0, .ref q45, .ref q46, .ref q47, .ref q48, .ref q49, .int 0, .ref q50, .ref q51, .ref q52, .int 0, .int 0, .ref q53, .ref q54])), (q3, .inl (E.2.1 0, 13, .inl (fun _ => 0)))] sz (fun r w => r = some (.int 0) ∧ w = []) := by
  refine gk_met (by decide) (Nat.le_of_ble_eq_true rfl) ?_
  intro p e s m below meth c A ls X hl hP hD hS
  have hx := X.1
  have hb := X.2.1
  have hown := X.2.2.2.1
  have hts := X.2.2.2.2.1
  have hZ := X.2.2.2.2.2.2.1
  have hr := X.2.2.2.2.2.2.2.2.1
  have hlocks : meth.locks = false := X.2.2.2.2.2.2.2.2.2.1
  have hl : lv_has ls 2 [(0, .ref h0)] := hl
  refine lv_aload_n hx hb d_Mo_read_0 rfl (lv_at hl 0 rfl) ?_
  refine lv_iconst (v := 0) hx hb d_Mo_read_1 (by decide) ?_
  refine gk_put (b := h0) (ci := 10) (v := .int 0) (ty := t_Mo 0) (ws' := [(h0, .inr (10, [.int 0, .ref q1, .ref q2, .int 0, .ref q3, .ref q4, .ref q5, .ref q6, .ref q7, .ref q8, .ref q9, .ref q10, .ref q11, .ref q12, .ref q13, .ref q14, .ref q15, .ref q16, .ref q17, .int 0, .int 0, .int 0, .int 0, .ref q18, .ref q19, .ref q20, .ref q21, .int 0, .int 0, .ref q22, .ref q23, .int 0, .int 0, .int 0, .int 0, .int 0, .int 0, .int 0, .int 0, .ref q24, .int 0, .int 0, .int 0, .int 0, .ref q25, .ref q26, .ref q27, .ref q28, .ref q29, .ref q30, .ref q31, .ref q32, .int 0, .int 0, .ref q33, .ref q34, .ref q35, .int 0, .ref q36, .ref q37, .ref q38, .ref q39, .ref q40, .ref q41, .ref q42, .ref q43, .ref q44, .int 0, .ref q45, .ref q46, .ref q47, .ref q48, .ref q49, .int 0, .ref q50, .ref q51, .ref q52, .int 0, .int 0, .ref q53, .ref q54])), (q3, .inl (E.2.1 0, 13, .inl (fun _ => 0)))]) X in_Mo t_Mo t_Mo_ok n_Mo hP hD hS 0 rfl rfl 0 (by decide) k_1355 (Or.inl rfl) (t_Mo_ok 0 (by decide)) rfl rfl (Nat.le_of_ble_eq_true rfl) d_Mo_read_2 rfl (fun H locs hP hD hS => ?_)
  refine lv_iconst (v := 0) hx hb d_Mo_read_5 (by decide) ?_
  refine lv_istore_n (lv' := [(1, .int 0), (0, .ref h0)]) hx hb d_Mo_read_6 rfl hl (by decide) rfl (fun ls hl => ?_)
  refine lv_iload_n hx hb d_Mo_read_7 rfl (lv_at hl 0 rfl) ?_
  refine lv_aload_n hx hb d_Mo_read_8 rfl (lv_at hl 1 rfl) ?_
  refine gk_get (b := h0) (ci := 10) (v := .int 0) X in_Mo hP 0 rfl rfl 3 (by decide) k_1358 rfl d_Mo_read_9 ?_
  refine lv_icmp_ge (tgt := 33) hx hb d_Mo_read_12 (by decide) (fun _ => ?_) (fun c9 => absurd (by decide) c9)
  refine lv_aload_n hx hb d_Mo_read_33 rfl (lv_at hl 1 rfl) ?_
  refine lv_aload_n hx hb d_Mo_read_34 rfl (lv_at hl 1 rfl) ?_
  refine gk_get (b := h0) (ci := 10) (v := .int 0) X in_Mo hP 0 rfl rfl 3 (by decide) k_1358 rfl d_Mo_read_35 ?_
  refine gk_back (wr := [(q3, .inl (E.2.1 0, 13, .inl (fun _ => 0)))]) (gk_runV (As := [.int 0]) (rest := []) (ci := 10) (q0 := 0) X (c_Mo_split l E h0 q1 q2 q3 q4 q5 q6 q7 q8 q9 q10 q11 q12 q13 q14 q15 q16 q17 q18 q19 q20 q21 q22 q23 q24 q25 q26 q27 q28 q29 q30 q31 q32 q33 q34 q35 q36 q37 q38 q39 q40 q41 q42 q43 q44 q45 q46 q47 q48 q49 q50 q51 q52 q53 q54 H.size) ok_Mo_split (Or.inl k_1609) k_1611 k_37 rfl rfl rfl hP hD hS [0] rfl rfl hl.1 rfl (Nat.le_of_ble_eq_true rfl) d_Mo_read_38 ⟨(Nat.le_of_ble_eq_true rfl), (Nat.le_of_ble_eq_true rfl)⟩ ⟨(Nat.le_of_ble_eq_true rfl), (Nat.le_of_ble_eq_true rfl)⟩) hP hD hS X.2.2.2.2.2.2.2.1 [0] [1] rfl rfl rfl (by decide) (fun r w H locs hB hP hD hS => ?_)
  obtain ⟨rfl, rfl⟩ := hB
  have hP : va_P E.1 gk_cl [(q3, .inl (E.2.1 0, 13, .inl (fun _ => 0))), (h0, .inr (10, [.int 0, .ref q1, .ref q2, .int 0, .ref q3, .ref q4, .ref q5, .ref q6, .ref q7, .ref q8, .ref q9, .ref q10, .ref q11, .ref q12, .ref q13, .ref q14, .ref q15, .ref q16, .ref q17, .int 0, .int 0, .int 0, .int 0, .ref q18, .ref q19, .ref q20, .ref q21, .int 0, .int 0, .ref q22, .ref q23, .int 0, .int 0, .int 0, .int 0, .int 0, .int 0, .int 0, .int 0, .ref q24, .int 0, .int 0, .int 0, .int 0, .ref q25, .ref q26, .ref q27, .ref q28, .ref q29, .ref q30, .ref q31, .ref q32, .int 0, .int 0, .ref q33, .ref q34, .ref q35, .int 0, .ref q36, .ref q37, .ref q38, .ref q39, .ref q40, .ref q41, .ref q42, .ref q43, .ref q44, .int 0, .ref q45, .ref q46, .ref q47, .ref q48, .ref q49, .int 0, .ref q50, .ref q51, .ref q52, .int 0, .int 0, .ref q53, .ref q54]))] H := hP
  have hD : va_D A [(q3, .inl (E.2.1 0, 13, .inl (fun _ => 0))), (h0, .inr (10, [.int 0, .ref q1, .ref q2, .int 0, .ref q3, .ref q4, .ref q5, .ref q6, .ref q7, .ref q8, .ref q9, .ref q10, .ref q11, .ref q12, .ref q13, .ref q14, .ref q15, .ref q16, .ref q17, .int 0, .int 0, .int 0, .int 0, .ref q18, .ref q19, .ref q20, .ref q21, .int 0, .int 0, .ref q22, .ref q23, .int 0, .int 0, .int 0, .int 0, .int 0, .int 0, .int 0, .int 0, .ref q24, .int 0, .int 0, .int 0, .int 0, .ref q25, .ref q26, .ref q27, .ref q28, .ref q29, .ref q30, .ref q31, .ref q32, .int 0, .int 0, .ref q33, .ref q34, .ref q35, .int 0, .ref q36, .ref q37, .ref q38, .ref q39, .ref q40, .ref q41, .ref q42, .ref q43, .ref q44, .int 0, .ref q45, .ref q46, .ref q47, .ref q48, .ref q49, .int 0, .ref q50, .ref q51, .ref q52, .int 0, .int 0, .ref q53, .ref q54]))] := hD
  refine W.widen (k := 0) (n := 0) (by omega) (by omega) ?_
  refine lv_aload_n hx hb d_Mo_read_41 rfl (lv_at hl 1 rfl) ?_
  refine lv_iconst (v := 0) hx hb d_Mo_read_42 (by decide) ?_
  refine gk_put (b := h0) (ci := 10) (v := .int 0) (ty := t_Mo 3) (ws' := [(q3, .inl (E.2.1 0, 13, .inl (fun _ => 0))), (h0, .inr (10, [.int 0, .ref q1, .ref q2, .int 0, .ref q3, .ref q4, .ref q5, .ref q6, .ref q7, .ref q8, .ref q9, .ref q10, .ref q11, .ref q12, .ref q13, .ref q14, .ref q15, .ref q16, .ref q17, .int 0, .int 0, .int 0, .int 0, .ref q18, .ref q19, .ref q20, .ref q21, .int 0, .int 0, .ref q22, .ref q23, .int 0, .int 0, .int 0, .int 0, .int 0, .int 0, .int 0, .int 0, .ref q24, .int 0, .int 0, .int 0, .int 0, .ref q25, .ref q26, .ref q27, .ref q28, .ref q29, .ref q30, .ref q31, .ref q32, .int 0, .int 0, .ref q33, .ref q34, .ref q35, .int 0, .ref q36, .ref q37, .ref q38, .ref q39, .ref q40, .ref q41, .ref q42, .ref q43, .ref q44, .int 0, .ref q45, .ref q46, .ref q47, .ref q48, .ref q49, .int 0, .ref q50, .ref q51, .ref q52, .int 0, .int 0, .ref q53, .ref q54]))]) X in_Mo t_Mo t_Mo_ok n_Mo hP hD hS 1 rfl rfl 3 (by decide) k_1358 (Or.inl rfl) (t_Mo_ok 3 (by decide)) rfl rfl (Nat.le_of_ble_eq_true rfl) d_Mo_read_43 rfl (fun H locs hP hD hS => ?_)
  refine lv_aload_n hx hb d_Mo_read_46 rfl (lv_at hl 1 rfl) ?_
  refine lv_iconst (v := 0) hx hb d_Mo_read_47 (by decide) ?_
  refine gk_put (b := h0) (ci := 10) (v := .int 0) (ty := t_Mo 28) (ws' := [(q3, .inl (E.2.1 0, 13, .inl (fun _ => 0))), (h0, .inr (10, [.int 0, .ref q1, .ref q2, .int 0, .ref q3, .ref q4, .ref q5, .ref q6, .ref q7, .ref q8, .ref q9, .ref q10, .ref q11, .ref q12, .ref q13, .ref q14, .ref q15, .ref q16, .ref q17, .int 0, .int 0, .int 0, .int 0, .ref q18, .ref q19, .ref q20, .ref q21, .int 0, .int 0, .ref q22, .ref q23, .int 0, .int 0, .int 0, .int 0, .int 0, .int 0, .int 0, .int 0, .ref q24, .int 0, .int 0, .int 0, .int 0, .ref q25, .ref q26, .ref q27, .ref q28, .ref q29, .ref q30, .ref q31, .ref q32, .int 0, .int 0, .ref q33, .ref q34, .ref q35, .int 0, .ref q36, .ref q37, .ref q38, .ref q39, .ref q40, .ref q41, .ref q42, .ref q43, .ref q44, .int 0, .ref q45, .ref q46, .ref q47, .ref q48, .ref q49, .int 0, .ref q50, .ref q51, .ref q52, .int 0, .int 0, .ref q53, .ref q54]))]) X in_Mo t_Mo t_Mo_ok n_Mo hP hD hS 1 rfl rfl 28 (by decide) k_1383 (Or.inl rfl) (t_Mo_ok 28 (by decide)) rfl rfl (Nat.le_of_ble_eq_true rfl) d_Mo_read_48 rfl (fun H locs hP hD hS => ?_)
  refine lv_aload_n hx hb d_Mo_read_51 rfl (lv_at hl 1 rfl) ?_
  refine lv_iconst (v := 0) hx hb d_Mo_read_52 (by decide) ?_
  refine gk_put (b := h0) (ci := 10) (v := .int 0) (ty := t_Mo 22) (ws' := [(q3, .inl (E.2.1 0, 13, .inl (fun _ => 0))), (h0, .inr (10, [.int 0, .ref q1, .ref q2, .int 0, .ref q3, .ref q4, .ref q5, .ref q6, .ref q7, .ref q8, .ref q9, .ref q10, .ref q11, .ref q12, .ref q13, .ref q14, .ref q15, .ref q16, .ref q17, .int 0, .int 0, .int 0, .int 0, .ref q18, .ref q19, .ref q20, .ref q21, .int 0, .int 0, .ref q22, .ref q23, .int 0, .int 0, .int 0, .int 0, .int 0, .int 0, .int 0, .int 0, .ref q24, .int 0, .int 0, .int 0, .int 0, .ref q25, .ref q26, .ref q27, .ref q28, .ref q29, .ref q30, .ref q31, .ref q32, .int 0, .int 0, .ref q33, .ref q34, .ref q35, .int 0, .ref q36, .ref q37, .ref q38, .ref q39, .ref q40, .ref q41, .ref q42, .ref q43, .ref q44, .int 0, .ref q45, .ref q46, .ref q47, .ref q48, .ref q49, .int 0, .ref q50, .ref q51, .ref q52, .int 0, .int 0, .ref q53, .ref q54]))]) X in_Mo t_Mo t_Mo_ok n_Mo hP hD hS 1 rfl rfl 22 (by decide) k_1377 (Or.inl rfl) (t_Mo_ok 22 (by decide)) rfl rfl (Nat.le_of_ble_eq_true rfl) d_Mo_read_53 rfl (fun H locs hP hD hS => ?_)
  refine lv_aload_n hx hb d_Mo_read_56 rfl (lv_at hl 1 rfl) ?_
  refine lv_iconst (v := 0) hx hb d_Mo_read_57 (by decide) ?_
  refine gk_put (b := h0) (ci := 10) (v := .int 0) (ty := t_Mo 19) (ws' := [(q3, .inl (E.2.1 0, 13, .inl (fun _ => 0))), (h0, .inr (10, [.int 0, .ref q1, .ref q2, .int 0, .ref q3, .ref q4, .ref q5, .ref q6, .ref q7, .ref q8, .ref q9, .ref q10, .ref q11, .ref q12, .ref q13, .ref q14, .ref q15, .ref q16, .ref q17, .int 0, .int 0, .int 0, .int 0, .ref q18, .ref q19, .ref q20, .ref q21, .int 0, .int 0, .ref q22, .ref q23, .int 0, .int 0, .int 0, .int 0, .int 0, .int 0, .int 0, .int 0, .ref q24, .int 0, .int 0, .int 0, .int 0, .ref q25, .ref q26, .ref q27, .ref q28, .ref q29, .ref q30, .ref q31, .ref q32, .int 0, .int 0, .ref q33, .ref q34, .ref q35, .int 0, .ref q36, .ref q37, .ref q38, .ref q39, .ref q40, .ref q41, .ref q42, .ref q43, .ref q44, .int 0, .ref q45, .ref q46, .ref q47, .ref q48, .ref q49, .int 0, .ref q50, .ref q51, .ref q52, .int 0, .int 0, .ref q53, .ref q54]))]) X in_Mo t_Mo t_Mo_ok n_Mo hP hD hS 1 rfl rfl 19 (by decide) k_1374 (Or.inl rfl) (t_Mo_ok 19 (by decide)) rfl rfl (Nat.le_of_ble_eq_true rfl) d_Mo_read_58 rfl (fun H locs hP hD hS => ?_)
  refine lv_aload_n hx hb d_Mo_read_61 rfl (lv_at hl 1 rfl) ?_
  refine gk_get (b := h0) (ci := 10) (v := .ref q3) X in_Mo hP 1 rfl rfl 4 (by decide) k_1359 rfl d_Mo_read_62 ?_
  refine lv_iconst (v := 0) hx hb d_Mo_read_65 (by decide) ?_
  refine lv_iconst (v := 0) hx hb d_Mo_read_66 (by decide) ?_
  refine va_iast hx hb X.2.2.2.2.2.1.1 hP hD hS 0 0 rfl rfl (i := 0) (by unfold vp_in; decide) d_Mo_read_67 (fun H locs hP hD hS => ?_)
  obtain ⟨f55, ef55⟩ : ∃ g, g = upd (fun _ => (0 : Int32)) (Int32.toNatClampNeg 0) 0 := ⟨_, rfl⟩
  rw [← ef55] at hP hD
  obtain rfl : f55 = (fun _ => 0) := ef55.trans (gk_upd0 _)
  have hP : va_P E.1 gk_cl [(q3, .inl (E.2.1 0, 13, .inl (fun _ => 0))), (h0, .inr (10, [.int 0, .ref q1, .ref q2, .int 0, .ref q3, .ref q4, .ref q5, .ref q6, .ref q7, .ref q8, .ref q9, .ref q10, .ref q11, .ref q12, .ref q13, .ref q14, .ref q15, .ref q16, .ref q17, .int 0, .int 0, .int 0, .int 0, .ref q18, .ref q19, .ref q20, .ref q21, .int 0, .int 0, .ref q22, .ref q23, .int 0, .int 0, .int 0, .int 0, .int 0, .int 0, .int 0, .int 0, .ref q24, .int 0, .int 0, .int 0, .int 0, .ref q25, .ref q26, .ref q27, .ref q28, .ref q29, .ref q30, .ref q31, .ref q32, .int 0, .int 0, .ref q33, .ref q34, .ref q35, .int 0, .ref q36, .ref q37, .ref q38, .ref q39, .ref q40, .ref q41, .ref q42, .ref q43, .ref q44, .int 0, .ref q45, .ref q46, .ref q47, .ref q48, .ref q49, .int 0, .ref q50, .ref q51, .ref q52, .int 0, .int 0, .ref q53, .ref q54]))] H := hP
  have hD : va_D A [(q3, .inl (E.2.1 0, 13, .inl (fun _ => 0))), (h0, .inr (10, [.int 0, .ref q1, .ref q2, .int 0, .ref q3, .ref q4, .ref q5, .ref q6, .ref q7, .ref q8, .ref q9, .ref q10, .ref q11, .ref q12, .ref q13, .ref q14, .ref q15, .ref q16, .ref q17, .int 0, .int 0, .int 0, .int 0, .ref q18, .ref q19, .ref q20, .ref q21, .int 0, .int 0, .ref q22, .ref q23, .int 0, .int 0, .int 0, .int 0, .int 0, .int 0, .int 0, .int 0, .ref q24, .int 0, .int 0, .int 0, .int 0, .ref q25, .ref q26, .ref q27, .ref q28, .ref q29, .ref q30, .ref q31, .ref q32, .int 0, .int 0, .ref q33, .ref q34, .ref q35, .int 0, .ref q36, .ref q37, .ref q38, .ref q39, .ref q40, .ref q41, .ref q42, .ref q43, .ref q44, .int 0, .ref q45, .ref q46, .ref q47, .ref q48, .ref q49, .int 0, .ref q50, .ref q51, .ref q52, .int 0, .int 0, .ref q53, .ref q54]))] := hD
  refine lv_aload_n hx hb d_Mo_read_68 rfl (lv_at hl 1 rfl) ?_
  refine lv_iconst (v := 0) hx hb d_Mo_read_69 (by decide) ?_
  refine gk_put (b := h0) (ci := 10) (v := .int 0) (ty := t_Mo 21) (ws' := [(q3, .inl (E.2.1 0, 13, .inl (fun _ => 0))), (h0, .inr (10, [.int 0, .ref q1, .ref q2, .int 0, .ref q3, .ref q4, .ref q5, .ref q6, .ref q7, .ref q8, .ref q9, .ref q10, .ref q11, .ref q12, .ref q13, .ref q14, .ref q15, .ref q16, .ref q17, .int 0, .int 0, .int 0, .int 0, .ref q18, .ref q19, .ref q20, .ref q21, .int 0, .int 0, .ref q22, .ref q23, .int 0, .int 0, .int 0, .int 0, .int 0, .int 0, .int 0, .int 0, .ref q24, .int 0, .int 0, .int 0, .int 0, .ref q25, .ref q26, .ref q27, .ref q28, .ref q29, .ref q30, .ref q31, .ref q32, .int 0, .int 0, .ref q33, .ref q34, .ref q35, .int 0, .ref q36, .ref q37, .ref q38, .ref q39, .ref q40, .ref q41, .ref q42, .ref q43, .ref q44, .int 0, .ref q45, .ref q46, .ref q47, .ref q48, .ref q49, .int 0, .ref q50, .ref q51, .ref q52, .int 0, .int 0, .ref q53, .ref q54]))]) X in_Mo t_Mo t_Mo_ok n_Mo hP hD hS 1 rfl rfl 21 (by decide) k_1376 (Or.inl rfl) (t_Mo_ok 21 (by decide)) rfl rfl (Nat.le_of_ble_eq_true rfl) d_Mo_read_70 rfl (fun H locs hP hD hS => ?_)
  refine lv_aload_n hx hb d_Mo_read_73 rfl (lv_at hl 1 rfl) ?_
  refine lv_iconst (v := 0) hx hb d_Mo_read_74 (by decide) ?_
  refine gk_put (b := h0) (ci := 10) (v := .int 0) (ty := t_Mo 38) (ws' := [(q3, .inl (E.2.1 0, 13, .inl (fun _ => 0))), (h0, .inr (10, [.int 0, .ref q1, .ref q2, .int 0, .ref q3, .ref q4, .ref q5, .ref q6, .ref q7, .ref q8, .ref q9, .ref q10, .ref q11, .ref q12, .ref q13, .ref q14, .ref q15, .ref q16, .ref q17, .int 0, .int 0, .int 0, .int 0, .ref q18, .ref q19, .ref q20, .ref q21, .int 0, .int 0, .ref q22, .ref q23, .int 0, .int 0, .int 0, .int 0, .int 0, .int 0, .int 0, .int 0, .ref q24, .int 0, .int 0, .int 0, .int 0, .ref q25, .ref q26, .ref q27, .ref q28, .ref q29, .ref q30, .ref q31, .ref q32, .int 0, .int 0, .ref q33, .ref q34, .ref q35, .int 0, .ref q36, .ref q37, .ref q38, .ref q39, .ref q40, .ref q41, .ref q42, .ref q43, .ref q44, .int 0, .ref q45, .ref q46, .ref q47, .ref q48, .ref q49, .int 0, .ref q50, .ref q51, .ref q52, .int 0, .int 0, .ref q53, .ref q54]))]) X in_Mo t_Mo t_Mo_ok n_Mo hP hD hS 1 rfl rfl 38 (by decide) k_1393 (Or.inl rfl) (t_Mo_ok 38 (by decide)) rfl rfl (Nat.le_of_ble_eq_true rfl) d_Mo_read_75 rfl (fun H locs hP hD hS => ?_)
  refine lv_aload_n hx hb d_Mo_read_78 rfl (lv_at hl 1 rfl) ?_
  refine lv_iconst (v := (-1)) hx hb d_Mo_read_79 (by decide) ?_
  refine gk_put (b := h0) (ci := 10) (v := .int (-1)) (ty := t_Mo 34) (ws' := [(q3, .inl (E.2.1 0, 13, .inl (fun _ => 0))), (h0, .inr (10, [.int 0, .ref q1, .ref q2, .int 0, .ref q3, .ref q4, .ref q5, .ref q6, .ref q7, .ref q8, .ref q9, .ref q10, .ref q11, .ref q12, .ref q13, .ref q14, .ref q15, .ref q16, .ref q17, .int 0, .int 0, .int 0, .int 0, .ref q18, .ref q19, .ref q20, .ref q21, .int 0, .int 0, .ref q22, .ref q23, .int 0, .int 0, .int 0, .int (-1), .int 0, .int 0, .int 0, .int 0, .ref q24, .int 0, .int 0, .int 0, .int 0, .ref q25, .ref q26, .ref q27, .ref q28, .ref q29, .ref q30, .ref q31, .ref q32, .int 0, .int 0, .ref q33, .ref q34, .ref q35, .int 0, .ref q36, .ref q37, .ref q38, .ref q39, .ref q40, .ref q41, .ref q42, .ref q43, .ref q44, .int 0, .ref q45, .ref q46, .ref q47, .ref q48, .ref q49, .int 0, .ref q50, .ref q51, .ref q52, .int 0, .int 0, .ref q53, .ref q54]))]) X in_Mo t_Mo t_Mo_ok n_Mo hP hD hS 1 rfl rfl 34 (by decide) k_1389 (Or.inl rfl) (t_Mo_ok 34 (by decide)) rfl rfl (Nat.le_of_ble_eq_true rfl) d_Mo_read_80 rfl (fun H locs hP hD hS => ?_)
  refine lv_aload_n hx hb d_Mo_read_83 rfl (lv_at hl 1 rfl) ?_
  refine lv_iconst (v := (-1)) hx hb d_Mo_read_84 (by decide) ?_
  refine gk_put (b := h0) (ci := 10) (v := .int (-1)) (ty := t_Mo 35) (ws' := [(q3, .inl (E.2.1 0, 13, .inl (fun _ => 0))), (h0, .inr (10, [.int 0, .ref q1, .ref q2, .int 0, .ref q3, .ref q4, .ref q5, .ref q6, .ref q7, .ref q8, .ref q9, .ref q10, .ref q11, .ref q12, .ref q13, .ref q14, .ref q15, .ref q16, .ref q17, .int 0, .int 0, .int 0, .int 0, .ref q18, .ref q19, .ref q20, .ref q21, .int 0, .int 0, .ref q22, .ref q23, .int 0, .int 0, .int 0, .int (-1), .int (-1), .int 0, .int 0, .int 0, .ref q24, .int 0, .int 0, .int 0, .int 0, .ref q25, .ref q26, .ref q27, .ref q28, .ref q29, .ref q30, .ref q31, .ref q32, .int 0, .int 0, .ref q33, .ref q34, .ref q35, .int 0, .ref q36, .ref q37, .ref q38, .ref q39, .ref q40, .ref q41, .ref q42, .ref q43, .ref q44, .int 0, .ref q45, .ref q46, .ref q47, .ref q48, .ref q49, .int 0, .ref q50, .ref q51, .ref q52, .int 0, .int 0, .ref q53, .ref q54]))]) X in_Mo t_Mo t_Mo_ok n_Mo hP hD hS 1 rfl rfl 35 (by decide) k_1390 (Or.inl rfl) (t_Mo_ok 35 (by decide)) rfl rfl (Nat.le_of_ble_eq_true rfl) d_Mo_read_85 rfl (fun H locs hP hD hS => ?_)
  refine lv_aload_n hx hb d_Mo_read_88 rfl (lv_at hl 1 rfl) ?_
  refine lv_iconst (v := (-1)) hx hb d_Mo_read_89 (by decide) ?_
  refine gk_put (b := h0) (ci := 10) (v := .int (-1)) (ty := t_Mo 36) (ws' := [(q3, .inl (E.2.1 0, 13, .inl (fun _ => 0))), (h0, .inr (10, [.int 0, .ref q1, .ref q2, .int 0, .ref q3, .ref q4, .ref q5, .ref q6, .ref q7, .ref q8, .ref q9, .ref q10, .ref q11, .ref q12, .ref q13, .ref q14, .ref q15, .ref q16, .ref q17, .int 0, .int 0, .int 0, .int 0, .ref q18, .ref q19, .ref q20, .ref q21, .int 0, .int 0, .ref q22, .ref q23, .int 0, .int 0, .int 0, .int (-1), .int (-1), .int (-1), .int 0, .int 0, .ref q24, .int 0, .int 0, .int 0, .int 0, .ref q25, .ref q26, .ref q27, .ref q28, .ref q29, .ref q30, .ref q31, .ref q32, .int 0, .int 0, .ref q33, .ref q34, .ref q35, .int 0, .ref q36, .ref q37, .ref q38, .ref q39, .ref q40, .ref q41, .ref q42, .ref q43, .ref q44, .int 0, .ref q45, .ref q46, .ref q47, .ref q48, .ref q49, .int 0, .ref q50, .ref q51, .ref q52, .int 0, .int 0, .ref q53, .ref q54]))]) X in_Mo t_Mo t_Mo_ok n_Mo hP hD hS 1 rfl rfl 36 (by decide) k_1391 (Or.inl rfl) (t_Mo_ok 36 (by decide)) rfl rfl (Nat.le_of_ble_eq_true rfl) d_Mo_read_90 rfl (fun H locs hP hD hS => ?_)
  refine lv_aload_n hx hb d_Mo_read_93 rfl (lv_at hl 1 rfl) ?_
  refine lv_iconst (v := 0) hx hb d_Mo_read_94 (by decide) ?_
  refine gk_put (b := h0) (ci := 10) (v := .int 0) (ty := t_Mo 37) (ws' := [(q3, .inl (E.2.1 0, 13, .inl (fun _ => 0))), (h0, .inr (10, [.int 0, .ref q1, .ref q2, .int 0, .ref q3, .ref q4, .ref q5, .ref q6, .ref q7, .ref q8, .ref q9, .ref q10, .ref q11, .ref q12, .ref q13, .ref q14, .ref q15, .ref q16, .ref q17, .int 0, .int 0, .int 0, .int 0, .ref q18, .ref q19, .ref q20, .ref q21, .int 0, .int 0, .ref q22, .ref q23, .int 0, .int 0, .int 0, .int (-1), .int (-1), .int (-1), .int 0, .int 0, .ref q24, .int 0, .int 0, .int 0, .int 0, .ref q25, .ref q26, .ref q27, .ref q28, .ref q29, .ref q30, .ref q31, .ref q32, .int 0, .int 0, .ref q33, .ref q34, .ref q35, .int 0, .ref q36, .ref q37, .ref q38, .ref q39, .ref q40, .ref q41, .ref q42, .ref q43, .ref q44, .int 0, .ref q45, .ref q46, .ref q47, .ref q48, .ref q49, .int 0, .ref q50, .ref q51, .ref q52, .int 0, .int 0, .ref q53, .ref q54]))]) X in_Mo t_Mo t_Mo_ok n_Mo hP hD hS 1 rfl rfl 37 (by decide) k_1392 (Or.inl rfl) (t_Mo_ok 37 (by decide)) rfl rfl (Nat.le_of_ble_eq_true rfl) d_Mo_read_95 rfl (fun H locs hP hD hS => ?_)
  refine lv_aload_n hx hb d_Mo_read_98 rfl (lv_at hl 1 rfl) ?_
  refine gk_get (b := h0) (ci := 10) (v := .int 0) X in_Mo hP 1 rfl rfl 28 (by decide) k_1383 rfl d_Mo_read_99 ?_
  refine lv_aload_n hx hb d_Mo_read_102 rfl (lv_at hl 1 rfl) ?_
  refine gk_get (b := h0) (ci := 10) (v := .int 0) X in_Mo hP 1 rfl rfl 27 (by decide) k_1382 rfl d_Mo_read_103 ?_
  refine lv_icmp_ge (tgt := 116) hx hb d_Mo_read_106 (by decide) (fun _ => ?_) (fun c9 => absurd (by decide) c9)
  refine lv_aload_n hx hb d_Mo_read_116 rfl (lv_at hl 1 rfl) ?_
  refine gk_get (b := h0) (ci := 10) (v := .int 0) X in_Mo hP 1 rfl rfl 37 (by decide) k_1392 rfl d_Mo_read_117 ?_
  refine lv_if_gt (tgt := 130) hx hb d_Mo_read_120 (by decide) (fun c9 => absurd c9 (by decide)) (fun _ => ?_)
  refine lv_aload_n hx hb d_Mo_read_123 rfl (lv_at hl 1 rfl) ?_
  refine gk_get (b := h0) (ci := 10) (v := .int (-1)) X in_Mo hP 1 rfl rfl 34 (by decide) k_1389 rfl d_Mo_read_124 ?_
  refine lv_if_lt (tgt := 141) hx hb d_Mo_read_127 (by decide) (fun _ => ?_) (fun c9 => absurd (by decide) c9)
  refine lv_aload_n hx hb d_Mo_read_141 rfl (lv_at hl 1 rfl) ?_
  refine gk_get (b := h0) (ci := 10) (v := .int 0) X in_Mo hP 1 rfl rfl 22 (by decide) k_1377 rfl d_Mo_read_142 ?_
  refine lv_if_le (tgt := 162) hx hb d_Mo_read_145 (by decide) (fun _ => ?_) (fun c9 => absurd (by decide) c9)
  refine lv_aload_n hx hb d_Mo_read_162 rfl (lv_at hl 1 rfl) ?_
  refine lv_aload_n hx hb d_Mo_read_163 rfl (lv_at hl 1 rfl) ?_
  refine gk_get (b := h0) (ci := 10) (v := .int 0) X in_Mo hP 1 rfl rfl 38 (by decide) k_1393 rfl d_Mo_read_164 ?_
  refine gk_put (b := h0) (ci := 10) (v := .int 0) (ty := t_Mo 21) (ws' := [(q3, .inl (E.2.1 0, 13, .inl (fun _ => 0))), (h0, .inr (10, [.int 0, .ref q1, .ref q2, .int 0, .ref q3, .ref q4, .ref q5, .ref q6, .ref q7, .ref q8, .ref q9, .ref q10, .ref q11, .ref q12, .ref q13, .ref q14, .ref q15, .ref q16, .ref q17, .int 0, .int 0, .int 0, .int 0, .ref q18, .ref q19, .ref q20, .ref q21, .int 0, .int 0, .ref q22, .ref q23, .int 0, .int 0, .int 0, .int (-1), .int (-1), .int (-1), .int 0, .int 0, .ref q24, .int 0, .int 0, .int 0, .int 0, .ref q25, .ref q26, .ref q27, .ref q28, .ref q29, .ref q30, .ref q31, .ref q32, .int 0, .int 0, .ref q33, .ref q34, .ref q35, .int 0, .ref q36, .ref q37, .ref q38, .ref q39, .ref q40, .ref q41, .ref q42, .ref q43, .ref q44, .int 0, .ref q45, .ref q46, .ref q47, .ref q48, .ref q49, .int 0, .ref q50, .ref q51, .ref q52, .int 0, .int 0, .ref q53, .ref q54]))]) X in_Mo t_Mo t_Mo_ok n_Mo hP hD hS 1 rfl rfl 21 (by decide) k_1376 (Or.inl rfl) (t_Mo_ok 21 (by decide)) rfl rfl (Nat.le_of_ble_eq_true rfl) d_Mo_read_167 rfl (fun H locs hP hD hS => ?_)
  refine lv_aload_n hx hb d_Mo_read_170 rfl (lv_at hl 1 rfl) ?_
  refine gk_get (b := h0) (ci := 10) (v := .int 0) X in_Mo hP 1 rfl rfl 38 (by decide) k_1393 rfl d_Mo_read_171 ?_
  refine lv_if_ne (tgt := 193) hx hb d_Mo_read_174 (by decide) (fun c9 => absurd (by decide) c9) (fun _ => ?_)
  refine lv_aload_n hx hb d_Mo_read_177 rfl (lv_at hl 1 rfl) ?_
  refine gk_back (wr := []) (gk_runV (As := []) (rest := []) (ci := 10) (q0 := 1) X (c_Mo_keep_0 l E q3 h0 q1 q2 q4 q5 q6 q7 q8 q9 q10 q11 q12 q13 q14 q15 q16 q17 q18 q19 q20 q21 q22 q23 q24 q25 q26 q27 q28 q29 q30 q31 q32 q33 q34 q35 q36 q37 q38 q39 q40 q41 q42 q43 q44 q45 q46 q47 q48 q49 q50 q51 q52 q53 q54 H.size) ok_Mo_keep (Or.inl k_1738) k_1740 k_64 rfl rfl rfl hP hD hS [0, 1] rfl rfl hl.1 rfl (Nat.le_of_ble_eq_true rfl) d_Mo_read_178 ⟨(Nat.le_of_ble_eq_true rfl), (Nat.le_of_ble_eq_true rfl)⟩ ⟨(Nat.le_of_ble_eq_true rfl), (Nat.le_of_ble_eq_true rfl)⟩) hP hD hS X.2.2.2.2.2.2.2.1 [0, 1] [] rfl rfl rfl (by decide) (fun r w H locs hB hP hD hS => ?_)
  obtain ⟨rfl, rfl⟩ := hB
  have hP : va_P E.1 gk_cl [(q3, .inl (E.2.1 0, 13, .inl (fun _ => 0))), (h0, .inr (10, [.int 0, .ref q1, .ref q2, .int 0, .ref q3, .ref q4, .ref q5, .ref q6, .ref q7, .ref q8, .ref q9, .ref q10, .ref q11, .ref q12, .ref q13, .ref q14, .ref q15, .ref q16, .ref q17, .int 0, .int 0, .int 0, .int 0, .ref q18, .ref q19, .ref q20, .ref q21, .int 0, .int 0, .ref q22, .ref q23, .int 0, .int 0, .int 0, .int (-1), .int (-1), .int (-1), .int 0, .int 0, .ref q24, .int 0, .int 0, .int 0, .int 0, .ref q25, .ref q26, .ref q27, .ref q28, .ref q29, .ref q30, .ref q31, .ref q32, .int 0, .int 0, .ref q33, .ref q34, .ref q35, .int 0, .ref q36, .ref q37, .ref q38, .ref q39, .ref q40, .ref q41, .ref q42, .ref q43, .ref q44, .int 0, .ref q45, .ref q46, .ref q47, .ref q48, .ref q49, .int 0, .ref q50, .ref q51, .ref q52, .int 0, .int 0, .ref q53, .ref q54]))] H := hP
  have hD : va_D A [(q3, .inl (E.2.1 0, 13, .inl (fun _ => 0))), (h0, .inr (10, [.int 0, .ref q1, .ref q2, .int 0, .ref q3, .ref q4, .ref q5, .ref q6, .ref q7, .ref q8, .ref q9, .ref q10, .ref q11, .ref q12, .ref q13, .ref q14, .ref q15, .ref q16, .ref q17, .int 0, .int 0, .int 0, .int 0, .ref q18, .ref q19, .ref q20, .ref q21, .int 0, .int 0, .ref q22, .ref q23, .int 0, .int 0, .int 0, .int (-1), .int (-1), .int (-1), .int 0, .int 0, .ref q24, .int 0, .int 0, .int 0, .int 0, .ref q25, .ref q26, .ref q27, .ref q28, .ref q29, .ref q30, .ref q31, .ref q32, .int 0, .int 0, .ref q33, .ref q34, .ref q35, .int 0, .ref q36, .ref q37, .ref q38, .ref q39, .ref q40, .ref q41, .ref q42, .ref q43, .ref q44, .int 0, .ref q45, .ref q46, .ref q47, .ref q48, .ref q49, .int 0, .ref q50, .ref q51, .ref q52, .int 0, .int 0, .ref q53, .ref q54]))] := hD
  refine W.widen (k := 0) (n := 0) (by omega) (by omega) ?_
  refine W.eq (g2 := F0 m 181 ls [.int 1]) rfl ?_
  refine lv_if_ne (tgt := 193) hx hb d_Mo_read_181 (by decide) (fun _ => ?_) (fun c9 => absurd c9 (by decide))
  refine lv_aload_n hx hb d_Mo_read_193 rfl (lv_at hl 1 rfl) ?_
  refine gk_get (b := h0) (ci := 10) (v := .ref q3) X in_Mo hP 1 rfl rfl 4 (by decide) k_1359 rfl d_Mo_read_194 ?_
  refine lv_iconst (v := 0) hx hb d_Mo_read_197 (by decide) ?_
  refine va_iald hx hb X.2.2.2.2.2.1.1 hP 0 0 rfl rfl (i := 0) (by unfold vp_in; decide) d_Mo_read_198 ?_
  have hP9 := hP.sub (ws' := []) [] rfl
  have hD9 := hD.sub (ws' := []) [] (by decide) rfl
  refine W.widen (k := 0) (n := 0) (Nat.le_of_ble_eq_true rfl) (Nat.le_of_ble_eq_true rfl) ?_
  exact W.iret hx hb hr (gk_q hP9 hD9 hS ⟨rfl, rfl⟩) hS.2.2 d_Mo_read_199
