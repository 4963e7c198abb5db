set_option maxHeartbeats 4000000 in
set_option maxRecDepth 100000 in
theorem c_Fa_total (l : Launch) (E : gk_E) (q2 : Nat) (q3 : Nat) (q4 : Nat) (q5 : Nat) (q6 : Nat) (sz : Nat) : gk_M l E y_Fa_total b_Fa_total 1 (some .int) 0 0 0 [.ref q2] [(q2, .inr (1, [.ref q3, .ref q4, .ref q5, .ref q6, .int 0]))] sz (fun r w => r = some (.int 0) ∧ w = [(q2, .inr (1, [.ref q3, .ref q4, .ref q5, .ref q6, .int 0]))]) := by
  refine gk_met (by decide) (Nat.le_of_ble_eq_true rfl) ?_
  intro p e s m below meth c A ls X hl hP hD hS
  have hx := X.1
  have hb := X.2.1
  have hown := X.2.2.2.1
  have hts := X.2.2.2.2.1
  have hZ := X.2.2.2.2.2.2.1
  have hr := X.2.2.2.2.2.2.2.2.1
  have hlocks : meth.locks = false := X.2.2.2.2.2.2.2.2.2.1
  have hl : lv_has ls 1 [(0, .ref q2)] := hl
  refine lv_aload_n hx hb d_Fa_total_0 rfl (lv_at hl 0 rfl) ?_
  refine gk_get (b := q2) (ci := 1) (v := .int 0) X in_Fa hP 0 rfl rfl 4 (by decide) k_135 rfl d_Fa_total_1 ?_
  have hP9 := hP.sub (ws' := [(q2, .inr (1, [.ref q3, .ref q4, .ref q5, .ref q6, .int 0]))]) [0] rfl
  have hD9 := hD.sub (ws' := [(q2, .inr (1, [.ref q3, .ref q4, .ref q5, .ref q6, .int 0]))]) [0] (by decide) rfl
  refine W.widen (k := 0) (n := 0) (Nat.le_of_ble_eq_true rfl) (Nat.le_of_ble_eq_true rfl) ?_
  exact W.iret hx hb hr (gk_q hP9 hD9 hS ⟨rfl, rfl⟩) hS.2.2 d_Fa_total_4

set_option maxHeartbeats 4000000 in
set_option maxRecDepth 100000 in
theorem c_Fa_clear (l : Launch) (E : gk_E) (q2 : Nat) (q3 : Nat) (q4 : Nat) (q5 : Nat) (q6 : Nat) (sz : Nat) : gk_M l E y_Fa_clear b_Fa_clear 1 (none) 0 0 0 [.ref q2] [(q2, .inr (1, [.ref q3, .ref q4, .ref q5, .ref q6, .int 0]))] sz (fun r w => r = none ∧ w = [(q2, .inr (1, [.ref q3, .ref q4, .ref q5, .ref q6, .int 0]))]) := by
  refine gk_met (by decide) (Nat.le_of_ble_eq_true rfl) ?_
  intro p e s m below meth c A ls X hl hP hD hS
  have hx := X.1
  have hb := X.2.1
  have hown := X.2.2.2.1
  have hts := X.2.2.2.2.1
  have hZ := X.2.2.2.2.2.2.1
  have hr := X.2.2.2.2.2.2.2.2.1
  have hlocks : meth.locks = false := X.2.2.2.2.2.2.2.2.2.1
  have hl : lv_has ls 1 [(0, .ref q2)] := hl
  refine lv_aload_n hx hb d_Fa_clear_0 rfl (lv_at hl 0 rfl) ?_
  refine lv_iconst (v := 0) hx hb d_Fa_clear_1 (by decide) ?_
  refine gk_put (b := q2) (ci := 1) (v := .int 0) (ty := t_Fa 4) (ws' := [(q2, .inr (1, [.ref q3, .ref q4, .ref q5, .ref q6, .int 0]))]) X in_Fa t_Fa t_Fa_ok n_Fa hP hD hS 0 rfl rfl 4 (by decide) k_135 (Or.inl rfl) (t_Fa_ok 4 (by decide)) rfl rfl (Nat.le_of_ble_eq_true rfl) d_Fa_clear_2 rfl (fun H locs hP hD hS => ?_)
  have hP9 := hP.sub (ws' := [(q2, .inr (1, [.ref q3, .ref q4, .ref q5, .ref q6, .int 0]))]) [0] rfl
  have hD9 := hD.sub (ws' := [(q2, .inr (1, [.ref q3, .ref q4, .ref q5, .ref q6, .int 0]))]) [0] (by decide) rfl
  refine W.widen (k := 0) (n := 0) (Nat.le_of_ble_eq_true rfl) (Nat.le_of_ble_eq_true rfl) ?_
  exact W.vret hx hb hr (gk_q hP9 hD9 hS ⟨rfl, rfl⟩) hS.2.2 d_Fa_clear_5

set_option maxHeartbeats 4000000 in
set_option maxRecDepth 100000 in
theorem c_Fa_tell (l : Launch) (E : gk_E) (q2 : Nat) (q3 : Nat) (q4 : Nat) (q5 : Nat) (q6 : Nat) (xi : Int32) (xj : Int32) (sz : Nat) : gk_M l E y_Fa_tell b_Fa_tell 3 (some .int) 0 0 0 [.ref q2, .int xi, .int xj] [(q2, .inr (1, [.ref q3, .ref q4, .ref q5, .ref q6, .int 0]))] sz (fun r w => r = some (.int (-1)) ∧ w = []) := by
  refine gk_met (by decide) (Nat.le_of_ble_eq_true rfl) ?_
  intro p e s m below meth c A ls X hl hP hD hS
  have hx := X.1
  have hb := X.2.1
  have hown := X.2.2.2.1
  have hts := X.2.2.2.2.1
  have hZ := X.2.2.2.2.2.2.1
  have hr := X.2.2.2.2.2.2.2.2.1
  have hlocks : meth.locks = false := X.2.2.2.2.2.2.2.2.2.1
  have hl : lv_has ls 3 [(0, .ref q2), (1, .int xi), (2, .int xj)] := hl
  refine lv_iload_n hx hb d_Fa_tell_0 rfl (lv_at hl 1 rfl) ?_
  refine lv_if_lt (tgt := 18) hx hb d_Fa_tell_1 (by decide) (fun c7 => ?_) (fun c7 => ?_)
  · refine lv_iconst (v := (-1)) hx hb d_Fa_tell_18 (by decide) ?_
    have hP9 := hP.sub (ws' := []) [] rfl
    have hD9 := hD.sub (ws' := []) [] (by decide) rfl
    refine W.widen (k := 0) (n := 0) (Nat.le_of_ble_eq_true rfl) (Nat.le_of_ble_eq_true rfl) ?_
    exact W.iret hx hb hr (gk_q hP9 hD9 hS ⟨rfl, rfl⟩) hS.2.2 d_Fa_tell_19
  · refine lv_iload_n hx hb d_Fa_tell_4 rfl (lv_at hl 1 rfl) ?_
    refine lv_aload_n hx hb d_Fa_tell_5 rfl (lv_at hl 0 rfl) ?_
    refine gk_get (b := q2) (ci := 1) (v := .int 0) X in_Fa hP 0 rfl rfl 4 (by decide) k_135 rfl d_Fa_tell_6 ?_
    refine lv_icmp_ge (tgt := 18) hx hb d_Fa_tell_9 (by decide) (fun _ => ?_) (fun c9 => absurd (Int32.not_lt.mp c7) c9)
    refine lv_iconst (v := (-1)) hx hb d_Fa_tell_18 (by decide) ?_
    have hP9 := hP.sub (ws' := []) [] rfl
    have hD9 := hD.sub (ws' := []) [] (by decide) rfl
    refine W.widen (k := 0) (n := 0) (Nat.le_of_ble_eq_true rfl) (Nat.le_of_ble_eq_true rfl) ?_
    exact W.iret hx hb hr (gk_q hP9 hD9 hS ⟨rfl, rfl⟩) hS.2.2 d_Fa_tell_19

set_option maxHeartbeats 4000000 in
set_option maxRecDepth 100000 in
theorem c_Ex_listing (l : Launch) (E : gk_E) (q8 : Nat) (q9 : Nat) (q10 : Nat) (q11 : Nat) (q12 : Nat) (q13 : Nat) (q14 : Nat) (q15 : Nat) (sz : Nat) : gk_M l E y_Ex_listing b_Ex_listing 1 (some (.object "JobText$Listing")) 0 0 0 [.ref q8] [(q8, .inr (2, [.ref q9, .ref q10, .ref q11, .ref q12, .ref q13, .ref q14, .ref q15, .int 0, .int 0, .long 0, .int 0, .int 0]))] sz (fun r w => r = some (.ref q9) ∧ w = [(q8, .inr (2, [.ref q9, .ref q10, .ref q11, .ref q12, .ref q13, .ref q14, .ref q15, .int 0, .int 0, .long 0, .int 0, .int 0]))]) := by
  refine gk_met (by decide) (Nat.le_of_ble_eq_true rfl) ?_
  intro p e s m below meth c A ls X hl hP hD hS
  have hx := X.1
  have hb := X.2.1
  have hown := X.2.2.2.1
  have hts := X.2.2.2.2.1
  have hZ := X.2.2.2.2.2.2.1
  have hr := X.2.2.2.2.2.2.2.2.1
  have hlocks : meth.locks = false := X.2.2.2.2.2.2.2.2.2.1
  have hl : lv_has ls 1 [(0, .ref q8)] := hl
  refine lv_aload_n hx hb d_Ex_listing_0 rfl (lv_at hl 0 rfl) ?_
  refine gk_get (b := q8) (ci := 2) (v := .ref q9) X in_Ex hP 0 rfl rfl 0 (by decide) k_265 rfl d_Ex_listing_1 ?_
  have hP9 := hP.sub (ws' := [(q8, .inr (2, [.ref q9, .ref q10, .ref q11, .ref q12, .ref q13, .ref q14, .ref q15, .int 0, .int 0, .long 0, .int 0, .int 0]))]) [0] rfl
  have hD9 := hD.sub (ws' := [(q8, .inr (2, [.ref q9, .ref q10, .ref q11, .ref q12, .ref q13, .ref q14, .ref q15, .int 0, .int 0, .long 0, .int 0, .int 0]))]) [0] (by decide) rfl
  refine W.widen (k := 0) (n := 0) (Nat.le_of_ble_eq_true rfl) (Nat.le_of_ble_eq_true rfl) ?_
  exact W.aret hx hb hr (Or.inl ⟨_, rfl⟩) (Or.inr ⟨_, rfl⟩) (gk_q hP9 hD9 hS ⟨rfl, rfl⟩) hS.2.2 d_Ex_listing_4

set_option maxHeartbeats 4000000 in
set_option maxRecDepth 100000 in
theorem c_Ex_missing (l : Launch) (E : gk_E) (q8 : Nat) (q9 : Nat) (q10 : Nat) (q11 : Nat) (q12 : Nat) (q13 : Nat) (q14 : Nat) (q15 : Nat) (sz : Nat) : gk_M l E y_Ex_missing b_Ex_missing 1 (some .int) 0 0 0 [.ref q8] [(q8, .inr (2, [.ref q9, .ref q10, .ref q11, .ref q12, .ref q13, .ref q14, .ref q15, .int 0, .int 0, .long 0, .int 0, .int 0]))] sz (fun r w => r = some (.int 0) ∧ w = [(q8, .inr (2, [.ref q9, .ref q10, .ref q11, .ref q12, .ref q13, .ref q14, .ref q15, .int 0, .int 0, .long 0, .int 0, .int 0]))]) := by
  refine gk_met (by decide) (Nat.le_of_ble_eq_true rfl) ?_
  intro p e s m below meth c A ls X hl hP hD hS
  have hx := X.1
  have hb := X.2.1
  have hown := X.2.2.2.1
  have hts := X.2.2.2.2.1
  have hZ := X.2.2.2.2.2.2.1
  have hr := X.2.2.2.2.2.2.2.2.1
  have hlocks : meth.locks = false := X.2.2.2.2.2.2.2.2.2.1
  have hl : lv_has ls 1 [(0, .ref q8)] := hl
  refine lv_aload_n hx hb d_Ex_missing_0 rfl (lv_at hl 0 rfl) ?_
  refine gk_get (b := q8) (ci := 2) (v := .int 0) X in_Ex hP 0 rfl rfl 10 (by decide) k_275 rfl d_Ex_missing_1 ?_
  have hP9 := hP.sub (ws' := [(q8, .inr (2, [.ref q9, .ref q10, .ref q11, .ref q12, .ref q13, .ref q14, .ref q15, .int 0, .int 0, .long 0, .int 0, .int 0]))]) [0] rfl
  have hD9 := hD.sub (ws' := [(q8, .inr (2, [.ref q9, .ref q10, .ref q11, .ref q12, .ref q13, .ref q14, .ref q15, .int 0, .int 0, .long 0, .int 0, .int 0]))]) [0] (by decide) rfl
  refine W.widen (k := 0) (n := 0) (Nat.le_of_ble_eq_true rfl) (Nat.le_of_ble_eq_true rfl) ?_
  exact W.iret hx hb hr (gk_q hP9 hD9 hS ⟨rfl, rfl⟩) hS.2.2 d_Ex_missing_4

set_option maxHeartbeats 4000000 in
set_option maxRecDepth 100000 in
theorem c_Li_size (l : Launch) (E : gk_E) (q9 : Nat) (q16 : Nat) (q17 : Nat) (q18 : Nat) (q19 : Nat) (q20 : Nat) (q21 : Nat) (q22 : Nat) (sz : Nat) : gk_M l E y_Li_size b_Li_size 1 (some .int) 0 0 0 [.ref q9] [(q9, .inr (3, [.ref q16, .ref q17, .ref q18, .ref q19, .ref q20, .ref q21, .ref q22, .int 0]))] sz (fun r w => r = some (.int 0) ∧ w = [(q9, .inr (3, [.ref q16, .ref q17, .ref q18, .ref q19, .ref q20, .ref q21, .ref q22, .int 0]))]) := by
  refine gk_met (by decide) (Nat.le_of_ble_eq_true rfl) ?_
  intro p e s m below meth c A ls X hl hP hD hS
  have hx := X.1
  have hb := X.2.1
  have hown := X.2.2.2.1
  have hts := X.2.2.2.2.1
  have hZ := X.2.2.2.2.2.2.1
  have hr := X.2.2.2.2.2.2.2.2.1
  have hlocks : meth.locks = false := X.2.2.2.2.2.2.2.2.2.1
  have hl : lv_has ls 1 [(0, .ref q9)] := hl
  refine lv_aload_n hx hb d_Li_size_0 rfl (lv_at hl 0 rfl) ?_
  refine gk_get (b := q9) (ci := 3) (v := .int 0) X in_Li hP 0 rfl rfl 7 (by decide) k_225 rfl d_Li_size_1 ?_
  have hP9 := hP.sub (ws' := [(q9, .inr (3, [.ref q16, .ref q17, .ref q18, .ref q19, .ref q20, .ref q21, .ref q22, .int 0]))]) [0] rfl
  have hD9 := hD.sub (ws' := [(q9, .inr (3, [.ref q16, .ref q17, .ref q18, .ref q19, .ref q20, .ref q21, .ref q22, .int 0]))]) [0] (by decide) rfl
  refine W.widen (k := 0) (n := 0) (Nat.le_of_ble_eq_true rfl) (Nat.le_of_ble_eq_true rfl) ?_
  exact W.iret hx hb hr (gk_q hP9 hD9 hS ⟨rfl, rfl⟩) hS.2.2 d_Li_size_4

set_option maxHeartbeats 4000000 in
set_option maxRecDepth 100000 in
theorem c_Li_tell (l : Launch) (E : gk_E) (q9 : Nat) (q16 : Nat) (q17 : Nat) (q18 : Nat) (q19 : Nat) (q20 : Nat) (q21 : Nat) (q22 : Nat) (xi : Int32) (xj : Int32) (sz : Nat) : gk_M l E y_Li_tell b_Li_tell 3 (some .int) 0 0 0 [.ref q9, .int xi, .int xj] [(q9, .inr (3, [.ref q16, .ref q17, .ref q18, .ref q19, .ref q20, .ref q21, .ref q22, .int 0]))] sz (fun r w => r = some (.int (-1)) ∧ w = []) := by
  refine gk_met (by decide) (Nat.le_of_ble_eq_true rfl) ?_
  intro p e s m below meth c A ls X hl hP hD hS
  have hx := X.1
  have hb := X.2.1
  have hown := X.2.2.2.1
  have hts := X.2.2.2.2.1
  have hZ := X.2.2.2.2.2.2.1
  have hr := X.2.2.2.2.2.2.2.2.1
  have hlocks : meth.locks = false := X.2.2.2.2.2.2.2.2.2.1
  have hl : lv_has ls 3 [(0, .ref q9), (1, .int xi), (2, .int xj)] := hl
  refine lv_iload_n hx hb d_Li_tell_0 rfl (lv_at hl 1 rfl) ?_
  refine lv_if_lt (tgt := 12) hx hb d_Li_tell_1 (by decide) (fun c23 => ?_) (fun c23 => ?_)
  · refine lv_iconst (v := (-1)) hx hb d_Li_tell_12 (by decide) ?_
    have hP9 := hP.sub (ws' := []) [] rfl
    have hD9 := hD.sub (ws' := []) [] (by decide) rfl
    refine W.widen (k := 0) (n := 0) (Nat.le_of_ble_eq_true rfl) (Nat.le_of_ble_eq_true rfl) ?_
    exact W.iret hx hb hr (gk_q hP9 hD9 hS ⟨rfl, rfl⟩) hS.2.2 d_Li_tell_13
  · refine lv_iload_n hx hb d_Li_tell_4 rfl (lv_at hl 1 rfl) ?_
    refine lv_aload_n hx hb d_Li_tell_5 rfl (lv_at hl 0 rfl) ?_
    refine gk_get (b := q9) (ci := 3) (v := .int 0) X in_Li hP 0 rfl rfl 7 (by decide) k_225 rfl d_Li_tell_6 ?_
    refine lv_icmp_lt (tgt := 14) hx hb d_Li_tell_9 (by decide) (fun c9 => absurd c9 c23) (fun _ => ?_)
    refine lv_iconst (v := (-1)) hx hb d_Li_tell_12 (by decide) ?_
    have hP9 := hP.sub (ws' := []) [] rfl
    have hD9 := hD.sub (ws' := []) [] (by decide) rfl
    refine W.widen (k := 0) (n := 0) (Nat.le_of_ble_eq_true rfl) (Nat.le_of_ble_eq_true rfl) ?_
    exact W.iret hx hb hr (gk_q hP9 hD9 hS ⟨rfl, rfl⟩) hS.2.2 d_Li_tell_13

set_option maxHeartbeats 4000000 in
set_option maxRecDepth 100000 in
theorem c_Li_letterOf (l : Launch) (E : gk_E) (q9 : Nat) (q16 : Nat) (q17 : Nat) (q18 : Nat) (q19 : Nat) (q20 : Nat) (q21 : Nat) (q22 : Nat) (xi : Int32) (xj : Int32) (sz : Nat) : gk_M l E y_Li_letterOf b_Li_letterOf 4 (some .int) 0 0 0 [.ref q9, .int xi, .int xj] [(q9, .inr (3, [.ref q16, .ref q17, .ref q18, .ref q19, .ref q20, .ref q21, .ref q22, .int 0]))] sz (fun r w => r = some (.int (-1)) ∧ w = []) := by
  refine gk_met (by decide) (Nat.le_of_ble_eq_true rfl) ?_
  intro p e s m below meth c A ls X hl hP hD hS
  have hx := X.1
  have hb := X.2.1
  have hown := X.2.2.2.1
  have hts := X.2.2.2.2.1
  have hZ := X.2.2.2.2.2.2.1
  have hr := X.2.2.2.2.2.2.2.2.1
  have hlocks : meth.locks = false := X.2.2.2.2.2.2.2.2.2.1
  have hl : lv_has ls 4 [(0, .ref q9), (1, .int xi), (2, .int xj)] := hl
  refine lv_iload_n hx hb d_Li_letterOf_0 rfl (lv_at hl 1 rfl) ?_
  refine lv_if_lt (tgt := 16) hx hb d_Li_letterOf_1 (by decide) (fun c23 => ?_) (fun c23 => ?_)
  · refine lv_iconst (v := (-1)) hx hb d_Li_letterOf_16 (by decide) ?_
    have hP9 := hP.sub (ws' := []) [] rfl
    have hD9 := hD.sub (ws' := []) [] (by decide) rfl
    refine W.widen (k := 0) (n := 0) (Nat.le_of_ble_eq_true rfl) (Nat.le_of_ble_eq_true rfl) ?_
    exact W.iret hx hb hr (gk_q hP9 hD9 hS ⟨rfl, rfl⟩) hS.2.2 d_Li_letterOf_17
  · refine lv_iload_n hx hb d_Li_letterOf_4 rfl (lv_at hl 1 rfl) ?_
    refine lv_aload_n hx hb d_Li_letterOf_5 rfl (lv_at hl 0 rfl) ?_
    refine gk_get (b := q9) (ci := 3) (v := .int 0) X in_Li hP 0 rfl rfl 7 (by decide) k_225 rfl d_Li_letterOf_6 ?_
    refine lv_icmp_ge (tgt := 16) hx hb d_Li_letterOf_9 (by decide) (fun _ => ?_) (fun c9 => absurd (Int32.not_lt.mp c23) c9)
    refine lv_iconst (v := (-1)) hx hb d_Li_letterOf_16 (by decide) ?_
    have hP9 := hP.sub (ws' := []) [] rfl
    have hD9 := hD.sub (ws' := []) [] (by decide) rfl
    refine W.widen (k := 0) (n := 0) (Nat.le_of_ble_eq_true rfl) (Nat.le_of_ble_eq_true rfl) ?_
    exact W.iret hx hb hr (gk_q hP9 hD9 hS ⟨rfl, rfl⟩) hS.2.2 d_Li_letterOf_17

set_option maxHeartbeats 4000000 in
set_option maxRecDepth 100000 in
theorem c_Al_size (l : Launch) (E : gk_E) (q7 : Nat) (sz : Nat) : gk_M l E y_Al_size b_Al_size 1 (some .int) 0 0 0 [.ref q7] [(q7, .inr (5, [.int 0, .ref E.2.2, .int 0]))] sz (fun r w => r = some (.int 0) ∧ w = [(q7, .inr (5, [.int 0, .ref E.2.2, .int 0]))]) := by
  refine gk_met (by decide) (Nat.le_of_ble_eq_true rfl) ?_
  intro p e s m below meth c A ls X hl hP hD hS
  have hx := X.1
  have hb := X.2.1
  have hown := X.2.2.2.1
  have hts := X.2.2.2.2.1
  have hZ := X.2.2.2.2.2.2.1
  have hr := X.2.2.2.2.2.2.2.2.1
  have hlocks : meth.locks = false := X.2.2.2.2.2.2.2.2.2.1
  have hl : lv_has ls 1 [(0, .ref q7)] := hl
  refine lv_aload_n hx hb d_Al_size_0 rfl (lv_at hl 0 rfl) ?_
  refine gk_get (b := q7) (ci := 5) (v := .int 0) X in_Al hP 0 rfl rfl 2 (by decide) k_164 rfl d_Al_size_1 ?_
  have hP9 := hP.sub (ws' := [(q7, .inr (5, [.int 0, .ref E.2.2, .int 0]))]) [0] rfl
  have hD9 := hD.sub (ws' := [(q7, .inr (5, [.int 0, .ref E.2.2, .int 0]))]) [0] (by decide) rfl
  refine W.widen (k := 0) (n := 0) (Nat.le_of_ble_eq_true rfl) (Nat.le_of_ble_eq_true rfl) ?_
  exact W.iret hx hb hr (gk_q hP9 hD9 hS ⟨rfl, rfl⟩) hS.2.2 d_Al_size_4

set_option maxHeartbeats 4000000 in
set_option maxRecDepth 100000 in
theorem c_Jt_nameLength (l : Launch) (E : gk_E) (sz : Nat) : gk_M l E y_Jt_nameLength b_Jt_nameLength 4 (some .int) 0 0 0 [.long 0] [] sz (fun r w => r = some (.int 0) ∧ w = []) := by
  refine gk_met (by decide) (Nat.le_of_ble_eq_true rfl) ?_
  intro p e s m below meth c A ls X hl hP hD hS
  have hx := X.1
  have hb := X.2.1
  have hown := X.2.2.2.1
  have hts := X.2.2.2.2.1
  have hZ := X.2.2.2.2.2.2.1
  have hr := X.2.2.2.2.2.2.2.2.1
  have hlocks : meth.locks = false := X.2.2.2.2.2.2.2.2.2.1
  have hl : lv_has ls 4 [(0, .long 0)] := hl
  refine lv_iconst (v := 0) hx hb d_Jt_nameLength_0 (by decide) ?_
  refine lv_istore_n (lv' := [(2, .int 0), (0, .long 0)]) hx hb d_Jt_nameLength_1 rfl hl (by decide) rfl (fun ls hl => ?_)
  refine lv_iconst (v := 0) hx hb d_Jt_nameLength_2 (by decide) ?_
  refine lv_istore_n (lv' := [(3, .int 0), (2, .int 0), (0, .long 0)]) hx hb d_Jt_nameLength_3 rfl hl (by decide) rfl (fun ls hl => ?_)
  refine lv_iload_n hx hb d_Jt_nameLength_4 rfl (lv_at hl 0 rfl) ?_
  refine lv_bipush (v := 64) hx hb d_Jt_nameLength_5 (by decide) ?_
  refine lv_icmp_ge (tgt := 31) hx hb d_Jt_nameLength_7 (by decide) (fun c9 => absurd c9 (by decide)) (fun _ => ?_)
  refine lv_lload_n hx hb d_Jt_nameLength_10 rfl (lv_at hl 2 rfl) ?_
  refine lv_iload_n hx hb d_Jt_nameLength_11 rfl (lv_at hl 0 rfl) ?_
  refine lv_lushr (v := 0) hx hb d_Jt_nameLength_12 (by decide) ?_
  refine lv_ldc2 (own := "JobText") (v := 255) hx hb hown (hts _ k_950) d_Jt_nameLength_13 ?_
  refine lv_land hx hb d_Jt_nameLength_16 ?_
  refine lv_topl (fun x2 ex2 => ?_)
  obtain rfl : x2 = (0 : Int64) := ex2.trans (by decide)
  refine lv_lconst (v := 0) hx hb d_Jt_nameLength_17 (by decide) ?_
  refine W.lcmp hx hb d_Jt_nameLength_18 ?_
  refine lv_topi (fun x3 ex3 => ?_)
  obtain rfl : x3 = (0 : Int32) := ex3.trans (by decide)
  refine lv_if_eq (tgt := 25) hx hb d_Jt_nameLength_19 (by decide) (fun _ => ?_) (fun c9 => absurd (by decide) c9)
  refine lv_iinc (v := 8) (lv' := [(3, .int 8), (2, .int 0), (0, .long 0)]) hx hb d_Jt_nameLength_25 hl (k := 0) rfl (by decide) (by decide) rfl (fun ls hl => ?_)
  refine lv_goto (tgt := 4) hx hb d_Jt_nameLength_28 (by decide) ?_
  refine lv_iload_n hx hb d_Jt_nameLength_4 rfl (lv_at hl 0 rfl) ?_
  refine lv_bipush (v := 64) hx hb d_Jt_nameLength_5 (by decide) ?_
  refine lv_icmp_ge (tgt := 31) hx hb d_Jt_nameLength_7 (by decide) (fun c9 => absurd c9 (by decide)) (fun _ => ?_)
  refine lv_lload_n hx hb d_Jt_nameLength_10 rfl (lv_at hl 2 rfl) ?_
  refine lv_iload_n hx hb d_Jt_nameLength_11 rfl (lv_at hl 0 rfl) ?_
  refine lv_lushr (v := 0) hx hb d_Jt_nameLength_12 (by decide) ?_
  refine lv_ldc2 (own := "JobText") (v := 255) hx hb hown (hts _ k_950) d_Jt_nameLength_13 ?_
  refine lv_land hx hb d_Jt_nameLength_16 ?_
  refine lv_topl (fun x5 ex5 => ?_)
  obtain rfl : x5 = (0 : Int64) := ex5.trans (by decide)
  refine lv_lconst (v := 0) hx hb d_Jt_nameLength_17 (by decide) ?_
  refine W.lcmp hx hb d_Jt_nameLength_18 ?_
  refine lv_topi (fun x6 ex6 => ?_)
  obtain rfl : x6 = (0 : Int32) := ex6.trans (by decide)
  refine lv_if_eq (tgt := 25) hx hb d_Jt_nameLength_19 (by decide) (fun _ => ?_) (fun c9 => absurd (by decide) c9)
  refine lv_iinc (v := 16) (lv' := [(3, .int 16), (2, .int 0), (0, .long 0)]) hx hb d_Jt_nameLength_25 hl (k := 0) rfl (by decide) (by decide) rfl (fun ls hl => ?_)
  refine lv_goto (tgt := 4) hx hb d_Jt_nameLength_28 (by decide) ?_
  refine lv_iload_n hx hb d_Jt_nameLength_4 rfl (lv_at hl 0 rfl) ?_
  refine lv_bipush (v := 64) hx hb d_Jt_nameLength_5 (by decide) ?_
  refine lv_icmp_ge (tgt := 31) hx hb d_Jt_nameLength_7 (by decide) (fun c9 => absurd c9 (by decide)) (fun _ => ?_)
  refine lv_lload_n hx hb d_Jt_nameLength_10 rfl (lv_at hl 2 rfl) ?_
  refine lv_iload_n hx hb d_Jt_nameLength_11 rfl (lv_at hl 0 rfl) ?_
  refine lv_lushr (v := 0) hx hb d_Jt_nameLength_12 (by decide) ?_
  refine lv_ldc2 (own := "JobText") (v := 255) hx hb hown (hts _ k_950) d_Jt_nameLength_13 ?_
  refine lv_land hx hb d_Jt_nameLength_16 ?_
  refine lv_topl (fun x8 ex8 => ?_)
  obtain rfl : x8 = (0 : Int64) := ex8.trans (by decide)
  refine lv_lconst (v := 0) hx hb d_Jt_nameLength_17 (by decide) ?_
  refine W.lcmp hx hb d_Jt_nameLength_18 ?_
  refine lv_topi (fun x9 ex9 => ?_)
  obtain rfl : x9 = (0 : Int32) := ex9.trans (by decide)
  refine lv_if_eq (tgt := 25) hx hb d_Jt_nameLength_19 (by decide) (fun _ => ?_) (fun c9 => absurd (by decide) c9)
  refine lv_iinc (v := 24) (lv' := [(3, .int 24), (2, .int 0), (0, .long 0)]) hx hb d_Jt_nameLength_25 hl (k := 0) rfl (by decide) (by decide) rfl (fun ls hl => ?_)
  refine lv_goto (tgt := 4) hx hb d_Jt_nameLength_28 (by decide) ?_
  refine lv_iload_n hx hb d_Jt_nameLength_4 rfl (lv_at hl 0 rfl) ?_
  refine lv_bipush (v := 64) hx hb d_Jt_nameLength_5 (by decide) ?_
  refine lv_icmp_ge (tgt := 31) hx hb d_Jt_nameLength_7 (by decide) (fun c9 => absurd c9 (by decide)) (fun _ => ?_)
  refine lv_lload_n hx hb d_Jt_nameLength_10 rfl (lv_at hl 2 rfl) ?_
  refine lv_iload_n hx hb d_Jt_nameLength_11 rfl (lv_at hl 0 rfl) ?_
  refine lv_lushr (v := 0) hx hb d_Jt_nameLength_12 (by decide) ?_
  refine lv_ldc2 (own := "JobText") (v := 255) hx hb hown (hts _ k_950) d_Jt_nameLength_13 ?_
  refine lv_land hx hb d_Jt_nameLength_16 ?_
  refine lv_topl (fun x11 ex11 => ?_)
  obtain rfl : x11 = (0 : Int64) := ex11.trans (by decide)
  refine lv_lconst (v := 0) hx hb d_Jt_nameLength_17 (by decide) ?_
  refine W.lcmp hx hb d_Jt_nameLength_18 ?_
  refine lv_topi (fun x12 ex12 => ?_)
  obtain rfl : x12 = (0 : Int32) := ex12.trans (by decide)
  refine lv_if_eq (tgt := 25) hx hb d_Jt_nameLength_19 (by decide) (fun _ => ?_) (fun c9 => absurd (by decide) c9)
  refine lv_iinc (v := 32) (lv' := [(3, .int 32), (2, .int 0), (0, .long 0)]) hx hb d_Jt_nameLength_25 hl (k := 0) rfl (by decide) (by decide) rfl (fun ls hl => ?_)
  refine lv_goto (tgt := 4) hx hb d_Jt_nameLength_28 (by decide) ?_
  refine lv_iload_n hx hb d_Jt_nameLength_4 rfl (lv_at hl 0 rfl) ?_
  refine lv_bipush (v := 64) hx hb d_Jt_nameLength_5 (by decide) ?_
  refine lv_icmp_ge (tgt := 31) hx hb d_Jt_nameLength_7 (by decide) (fun c9 => absurd c9 (by decide)) (fun _ => ?_)
  refine lv_lload_n hx hb d_Jt_nameLength_10 rfl (lv_at hl 2 rfl) ?_
  refine lv_iload_n hx hb d_Jt_nameLength_11 rfl (lv_at hl 0 rfl) ?_
  refine lv_lushr (v := 0) hx hb d_Jt_nameLength_12 (by decide) ?_
  refine lv_ldc2 (own := "JobText") (v := 255) hx hb hown (hts _ k_950) d_Jt_nameLength_13 ?_
  refine lv_land hx hb d_Jt_nameLength_16 ?_
  refine lv_topl (fun x14 ex14 => ?_)
  obtain rfl : x14 = (0 : Int64) := ex14.trans (by decide)
  refine lv_lconst (v := 0) hx hb d_Jt_nameLength_17 (by decide) ?_
  refine W.lcmp hx hb d_Jt_nameLength_18 ?_
  refine lv_topi (fun x15 ex15 => ?_)
  obtain rfl : x15 = (0 : Int32) := ex15.trans (by decide)
  refine lv_if_eq (tgt := 25) hx hb d_Jt_nameLength_19 (by decide) (fun _ => ?_) (fun c9 => absurd (by decide) c9)
  refine lv_iinc (v := 40) (lv' := [(3, .int 40), (2, .int 0), (0, .long 0)]) hx hb d_Jt_nameLength_25 hl (k := 0) rfl (by decide) (by decide) rfl (fun ls hl => ?_)
  refine lv_goto (tgt := 4) hx hb d_Jt_nameLength_28 (by decide) ?_
  refine lv_iload_n hx hb d_Jt_nameLength_4 rfl (lv_at hl 0 rfl) ?_
  refine lv_bipush (v := 64) hx hb d_Jt_nameLength_5 (by decide) ?_
  refine lv_icmp_ge (tgt := 31) hx hb d_Jt_nameLength_7 (by decide) (fun c9 => absurd c9 (by decide)) (fun _ => ?_)
  refine lv_lload_n hx hb d_Jt_nameLength_10 rfl (lv_at hl 2 rfl) ?_
  refine lv_iload_n hx hb d_Jt_nameLength_11 rfl (lv_at hl 0 rfl) ?_
  refine lv_lushr (v := 0) hx hb d_Jt_nameLength_12 (by decide) ?_
  refine lv_ldc2 (own := "JobText") (v := 255) hx hb hown (hts _ k_950) d_Jt_nameLength_13 ?_
  refine lv_land hx hb d_Jt_nameLength_16 ?_
  refine lv_topl (fun x17 ex17 => ?_)
  obtain rfl : x17 = (0 : Int64) := ex17.trans (by decide)
  refine lv_lconst (v := 0) hx hb d_Jt_nameLength_17 (by decide) ?_
  refine W.lcmp hx hb d_Jt_nameLength_18 ?_
  refine lv_topi (fun x18 ex18 => ?_)
  obtain rfl : x18 = (0 : Int32) := ex18.trans (by decide)
  refine lv_if_eq (tgt := 25) hx hb d_Jt_nameLength_19 (by decide) (fun _ => ?_) (fun c9 => absurd (by decide) c9)
  refine lv_iinc (v := 48) (lv' := [(3, .int 48), (2, .int 0), (0, .long 0)]) hx hb d_Jt_nameLength_25 hl (k := 0) rfl (by decide) (by decide) rfl (fun ls hl => ?_)
  refine lv_goto (tgt := 4) hx hb d_Jt_nameLength_28 (by decide) ?_
  refine lv_iload_n hx hb d_Jt_nameLength_4 rfl (lv_at hl 0 rfl) ?_
  refine lv_bipush (v := 64) hx hb d_Jt_nameLength_5 (by decide) ?_
  refine lv_icmp_ge (tgt := 31) hx hb d_Jt_nameLength_7 (by decide) (fun c9 => absurd c9 (by decide)) (fun _ => ?_)
  refine lv_lload_n hx hb d_Jt_nameLength_10 rfl (lv_at hl 2 rfl) ?_
  refine lv_iload_n hx hb d_Jt_nameLength_11 rfl (lv_at hl 0 rfl) ?_
  refine lv_lushr (v := 0) hx hb d_Jt_nameLength_12 (by decide) ?_
  refine lv_ldc2 (own := "JobText") (v := 255) hx hb hown (hts _ k_950) d_Jt_nameLength_13 ?_
  refine lv_land hx hb d_Jt_nameLength_16 ?_
  refine lv_topl (fun x20 ex20 => ?_)
  obtain rfl : x20 = (0 : Int64) := ex20.trans (by decide)
  refine lv_lconst (v := 0) hx hb d_Jt_nameLength_17 (by decide) ?_
  refine W.lcmp hx hb d_Jt_nameLength_18 ?_
  refine lv_topi (fun x21 ex21 => ?_)
  obtain rfl : x21 = (0 : Int32) := ex21.trans (by decide)
  refine lv_if_eq (tgt := 25) hx hb d_Jt_nameLength_19 (by decide) (fun _ => ?_) (fun c9 => absurd (by decide) c9)
  refine lv_iinc (v := 56) (lv' := [(3, .int 56), (2, .int 0), (0, .long 0)]) hx hb d_Jt_nameLength_25 hl (k := 0) rfl (by decide) (by decide) rfl (fun ls hl => ?_)
  refine lv_goto (tgt := 4) hx hb d_Jt_nameLength_28 (by decide) ?_
  refine lv_iload_n hx hb d_Jt_nameLength_4 rfl (lv_at hl 0 rfl) ?_
  refine lv_bipush (v := 64) hx hb d_Jt_nameLength_5 (by decide) ?_
  refine lv_icmp_ge (tgt := 31) hx hb d_Jt_nameLength_7 (by decide) (fun c9 => absurd c9 (by decide)) (fun _ => ?_)
  refine lv_lload_n hx hb d_Jt_nameLength_10 rfl (lv_at hl 2 rfl) ?_
  refine lv_iload_n hx hb d_Jt_nameLength_11 rfl (lv_at hl 0 rfl) ?_
  refine lv_lushr (v := 0) hx hb d_Jt_nameLength_12 (by decide) ?_
  refine lv_ldc2 (own := "JobText") (v := 255) hx hb hown (hts _ k_950) d_Jt_nameLength_13 ?_
  refine lv_land hx hb d_Jt_nameLength_16 ?_
  refine lv_topl (fun x23 ex23 => ?_)
  obtain rfl : x23 = (0 : Int64) := ex23.trans (by decide)
  refine lv_lconst (v := 0) hx hb d_Jt_nameLength_17 (by decide) ?_
  refine W.lcmp hx hb d_Jt_nameLength_18 ?_
  refine lv_topi (fun x24 ex24 => ?_)
  obtain rfl : x24 = (0 : Int32) := ex24.trans (by decide)
  refine lv_if_eq (tgt := 25) hx hb d_Jt_nameLength_19 (by decide) (fun _ => ?_) (fun c9 => absurd (by decide) c9)
  refine lv_iinc (v := 64) (lv' := [(3, .int 64), (2, .int 0), (0, .long 0)]) hx hb d_Jt_nameLength_25 hl (k := 0) rfl (by decide) (by decide) rfl (fun ls hl => ?_)
  refine lv_goto (tgt := 4) hx hb d_Jt_nameLength_28 (by decide) ?_
  refine lv_iload_n hx hb d_Jt_nameLength_4 rfl (lv_at hl 0 rfl) ?_
  refine lv_bipush (v := 64) hx hb d_Jt_nameLength_5 (by decide) ?_
  refine lv_icmp_ge (tgt := 31) hx hb d_Jt_nameLength_7 (by decide) (fun _ => ?_) (fun c9 => absurd (by decide) c9)
  refine lv_iload_n hx hb d_Jt_nameLength_31 rfl (lv_at hl 1 rfl) ?_
  have hP9 := hP.sub (ws' := []) [] rfl
  have hD9 := hD.sub (ws' := []) [] (by decide) rfl
  refine W.widen (k := 0) (n := 0) (Nat.le_of_ble_eq_true rfl) (Nat.le_of_ble_eq_true rfl) ?_
  exact W.iret hx hb hr (gk_q hP9 hD9 hS ⟨rfl, rfl⟩) hS.2.2 d_Jt_nameLength_32

set_option maxHeartbeats 4000000 in
set_option maxRecDepth 100000 in
theorem c_Jt_nameSign (l : Launch) (E : gk_E) (xi : Int32) (sz : Nat) : gk_M l E y_Jt_nameSign b_Jt_nameSign 4 (some .int) 1 0 0 [.long 0, .int xi] [] sz (fun r w => r = some (.int (-1)) ∧ w = []) := by
  refine gk_met (by decide) (Nat.le_of_ble_eq_true rfl) ?_
  intro p e s m below meth c A ls X hl hP hD hS
  have hx := X.1
  have hb := X.2.1
  have hown := X.2.2.2.1
  have hts := X.2.2.2.2.1
  have hZ := X.2.2.2.2.2.2.1
  have hr := X.2.2.2.2.2.2.2.2.1
  have hlocks : meth.locks = false := X.2.2.2.2.2.2.2.2.2.1
  have hl : lv_has ls 4 [(0, .long 0), (2, .int xi)] := hl
  refine lv_lload_n hx hb d_Jt_nameSign_0 rfl (lv_at hl 0 rfl) ?_
  refine gk_back (wr := []) (gk_runS (As := [.long 0]) (rest := []) X (c_Jt_nameLength l E s.heap.size) ok_Jt_nameLength (Or.inl k_954) k_948 rfl hP hD hS [] rfl rfl hl.1 rfl (Nat.le_of_ble_eq_true rfl) d_Jt_nameSign_1 ⟨(Nat.le_of_ble_eq_true rfl), (Nat.le_of_ble_eq_true rfl)⟩ ⟨(Nat.le_of_ble_eq_true rfl), (Nat.le_of_ble_eq_true rfl)⟩) hP hD hS X.2.2.2.2.2.2.2.1 [] [] rfl rfl rfl (by decide) (fun r w H locs hB hP hD hS => ?_)
  obtain ⟨rfl, rfl⟩ := hB
  have hP : va_P E.1 gk_cl [] H := hP
  have hD : va_D A [] := hD
  refine W.widen (k := 0) (n := 0) (by omega) (by omega) ?_
  refine W.eq (g2 := F0 m 4 ls [.int 0]) rfl ?_
  refine lv_istore_n (lv' := [(3, .int 0), (0, .long 0), (2, .int xi)]) hx hb d_Jt_nameSign_4 rfl hl (by decide) rfl (fun ls hl => ?_)
  refine lv_iload_n hx hb d_Jt_nameSign_5 rfl (lv_at hl 2 rfl) ?_
  refine lv_if_lt (tgt := 14) hx hb d_Jt_nameSign_6 (by decide) (fun c1 => ?_) (fun c1 => ?_)
  · refine lv_iconst (v := (-1)) hx hb d_Jt_nameSign_14 (by decide) ?_
    have hP9 := hP.sub (ws' := []) [] rfl
    have hD9 := hD.sub (ws' := []) [] (by decide) rfl
    refine W.widen (k := 0) (n := 0) (Nat.le_of_ble_eq_true rfl) (Nat.le_of_ble_eq_true rfl) ?_
    exact W.iret hx hb hr (gk_q hP9 hD9 hS ⟨rfl, rfl⟩) hS.2.2 d_Jt_nameSign_15
  · refine lv_iload_n hx hb d_Jt_nameSign_9 rfl (lv_at hl 2 rfl) ?_
    refine lv_iload_n hx hb d_Jt_nameSign_10 rfl (lv_at hl 0 rfl) ?_
    refine lv_icmp_lt (tgt := 16) hx hb d_Jt_nameSign_11 (by decide) (fun c9 => absurd c9 c1) (fun _ => ?_)
    refine lv_iconst (v := (-1)) hx hb d_Jt_nameSign_14 (by decide) ?_
    have hP9 := hP.sub (ws' := []) [] rfl
    have hD9 := hD.sub (ws' := []) [] (by decide) rfl
    refine W.widen (k := 0) (n := 0) (Nat.le_of_ble_eq_true rfl) (Nat.le_of_ble_eq_true rfl) ?_
    exact W.iret hx hb hr (gk_q hP9 hD9 hS ⟨rfl, rfl⟩) hS.2.2 d_Jt_nameSign_15

set_option maxHeartbeats 4000000 in
set_option maxRecDepth 100000 in
theorem c_Ex_calledSign (l : Launch) (E : gk_E) (q8 : Nat) (q9 : Nat) (q10 : Nat) (q11 : Nat) (q12 : Nat) (q13 : Nat) (q14 : Nat) (q15 : Nat) (xi : Int32) (sz : Nat) : gk_M l E y_Ex_calledSign b_Ex_calledSign 2 (some .int) 2 0 0 [.ref q8, .int xi] [(q8, .inr (2, [.ref q9, .ref q10, .ref q11, .ref q12, .ref q13, .ref q14, .ref q15, .int 0, .int 0, .long 0, .int 0, .int 0]))] sz (fun r w => r = some (.int (-1)) ∧ w = []) := by
  refine gk_met (by decide) (Nat.le_of_ble_eq_true rfl) ?_
  intro p e s m below meth c A ls X hl hP hD hS
  have hx := X.1
  have hb := X.2.1
  have hown := X.2.2.2.1
  have hts := X.2.2.2.2.1
  have hZ := X.2.2.2.2.2.2.1
  have hr := X.2.2.2.2.2.2.2.2.1
  have hlocks : meth.locks = false := X.2.2.2.2.2.2.2.2.2.1
  have hl : lv_has ls 2 [(0, .ref q8), (1, .int xi)] := hl
  refine lv_aload_n hx hb d_Ex_calledSign_0 rfl (lv_at hl 0 rfl) ?_
  refine gk_get (b := q8) (ci := 2) (v := .long 0) X in_Ex hP 0 rfl rfl 9 (by decide) k_274 rfl d_Ex_calledSign_1 ?_
  refine lv_iload_n hx hb d_Ex_calledSign_4 rfl (lv_at hl 1 rfl) ?_
  refine gk_back (wr := [(q8, .inr (2, [.ref q9, .ref q10, .ref q11, .ref q12, .ref q13, .ref q14, .ref q15, .int 0, .int 0, .long 0, .int 0, .int 0]))]) (gk_runS (As := [.long 0, .int xi]) (rest := []) X (c_Jt_nameSign l E xi s.heap.size) ok_Jt_nameSign (Or.inr nk_64) k_952 rfl hP hD hS [] rfl rfl hl.1 rfl (Nat.le_of_ble_eq_true rfl) d_Ex_calledSign_5 ⟨(Nat.le_of_ble_eq_true rfl), (Nat.le_of_ble_eq_true rfl)⟩ ⟨(Nat.le_of_ble_eq_true rfl), (Nat.le_of_ble_eq_true rfl)⟩) hP hD hS X.2.2.2.2.2.2.2.1 [] [0] rfl rfl rfl (by decide) (fun r w H locs hB hP hD hS => ?_)
  obtain ⟨rfl, rfl⟩ := hB
  have hP : va_P E.1 gk_cl [(q8, .inr (2, [.ref q9, .ref q10, .ref q11, .ref q12, .ref q13, .ref q14, .ref q15, .int 0, .int 0, .long 0, .int 0, .int 0]))] H := hP
  have hD : va_D A [(q8, .inr (2, [.ref q9, .ref q10, .ref q11, .ref q12, .ref q13, .ref q14, .ref q15, .int 0, .int 0, .long 0, .int 0, .int 0]))] := hD
  refine W.widen (k := 0) (n := 0) (by omega) (by omega) ?_
  refine W.eq (g2 := F0 m 8 ls [.int (-1)]) rfl ?_
  have hP9 := hP.sub (ws' := []) [] rfl
  have hD9 := hD.sub (ws' := []) [] (by decide) rfl
  refine W.widen (k := 0) (n := 0) (Nat.le_of_ble_eq_true rfl) (Nat.le_of_ble_eq_true rfl) ?_
  exact W.iret hx hb hr (gk_q hP9 hD9 hS ⟨rfl, rfl⟩) hS.2.2 d_Ex_calledSign_8

set_option maxHeartbeats 4000000 in
set_option maxRecDepth 100000 in
theorem c_Jt_hasJob (l : Launch) (E : gk_E) (h0 : Nat) (q1 : Nat) (q2 : Nat) (q7 : Nat) (q8 : Nat) (sz : Nat) : gk_M l E y_Jt_hasJob b_Jt_hasJob 1 (some .boolean) 0 0 0 [.ref h0] [(h0, .inr (0, [.ref q1, .ref q2, .ref q7, .ref q8, .int 0, .null]))] sz (fun r w => r = some (.int 0) ∧ w = [(h0, .inr (0, [.ref q1, .ref q2, .ref q7, .ref q8, .int 0, .null]))]) := by
  refine gk_met (by decide) (Nat.le_of_ble_eq_true rfl) ?_
  intro p e s m below meth c A ls X hl hP hD hS
  have hx := X.1
  have hb := X.2.1
  have hown := X.2.2.2.1
  have hts := X.2.2.2.2.1
  have hZ := X.2.2.2.2.2.2.1
  have hr := X.2.2.2.2.2.2.2.2.1
  have hlocks : meth.locks = false := X.2.2.2.2.2.2.2.2.2.1
  have hl : lv_has ls 1 [(0, .ref h0)] := hl
  refine lv_aload_n hx hb d_Jt_hasJob_0 rfl (lv_at hl 0 rfl) ?_
  refine gk_get (b := h0) (ci := 0) (v := .null) X in_Jt hP 0 rfl rfl 5 (by decide) k_307 rfl d_Jt_hasJob_1 ?_
  refine lv_ifnullN (tgt := 21) hx hb d_Jt_hasJob_4 (by decide) ?_
  refine lv_iconst (v := 0) hx hb d_Jt_hasJob_21 (by decide) ?_
  have hP9 := hP.sub (ws' := [(h0, .inr (0, [.ref q1, .ref q2, .ref q7, .ref q8, .int 0, .null]))]) [0] rfl
  have hD9 := hD.sub (ws' := [(h0, .inr (0, [.ref q1, .ref q2, .ref q7, .ref q8, .int 0, .null]))]) [0] (by decide) rfl
  refine W.widen (k := 0) (n := 0) (Nat.le_of_ble_eq_true rfl) (Nat.le_of_ble_eq_true rfl) ?_
  exact W.zret hx hb hr (by decide) (gk_q hP9 hD9 hS ⟨rfl, rfl⟩) hS.2.2 d_Jt_hasJob_22

set_option maxHeartbeats 4000000 in
set_option maxRecDepth 100000 in
theorem c_Jt_statementOf (l : Launch) (E : gk_E) (h0 : Nat) (q1 : Nat) (q2 : Nat) (q7 : Nat) (q8 : Nat) (xi : Int32) (sz : Nat) : gk_M l E y_Jt_statementOf b_Jt_statementOf 2 (some (.object "JobText$Statement")) 0 0 0 [.ref h0, .int xi] [(h0, .inr (0, [.ref q1, .ref q2, .ref q7, .ref q8, .int 0, .null]))] sz (fun r w => r = some (.null) ∧ w = [(h0, .inr (0, [.ref q1, .ref q2, .ref q7, .ref q8, .int 0, .null]))]) := by
  refine gk_met (by decide) (Nat.le_of_ble_eq_true rfl) ?_
  intro p e s m below meth c A ls X hl hP hD hS
  have hx := X.1
  have hb := X.2.1
  have hown := X.2.2.2.1
  have hts := X.2.2.2.2.1
  have hZ := X.2.2.2.2.2.2.1
  have hr := X.2.2.2.2.2.2.2.2.1
  have hlocks : meth.locks = false := X.2.2.2.2.2.2.2.2.2.1
  have hl : lv_has ls 2 [(0, .ref h0), (1, .int xi)] := hl
  refine lv_aload_n hx hb d_Jt_statementOf_0 rfl (lv_at hl 0 rfl) ?_
  refine gk_get (b := h0) (ci := 0) (v := .null) X in_Jt hP 0 rfl rfl 5 (by decide) k_307 rfl d_Jt_statementOf_1 ?_
  refine lv_ifnonnullN hx hb d_Jt_statementOf_4 ?_
  refine lv_null hx hb d_Jt_statementOf_7 ?_
  refine lv_goto (tgt := 19) hx hb d_Jt_statementOf_8 (by decide) ?_
  have hP9 := hP.sub (ws' := [(h0, .inr (0, [.ref q1, .ref q2, .ref q7, .ref q8, .int 0, .null]))]) [0] rfl
  have hD9 := hD.sub (ws' := [(h0, .inr (0, [.ref q1, .ref q2, .ref q7, .ref q8, .int 0, .null]))]) [0] (by decide) rfl
  refine W.widen (k := 0) (n := 0) (Nat.le_of_ble_eq_true rfl) (Nat.le_of_ble_eq_true rfl) ?_
  exact W.aret hx hb hr (Or.inl ⟨_, rfl⟩) (Or.inl rfl) (gk_q hP9 hD9 hS ⟨rfl, rfl⟩) hS.2.2 d_Jt_statementOf_19

set_option maxHeartbeats 4000000 in
set_option maxRecDepth 100000 in
theorem c_Jt_statement (l : Launch) (E : gk_E) (h0 : Nat) (q1 : Nat) (q2 : Nat) (q7 : Nat) (q8 : Nat) (xi : Int32) (xj : Int32) (sz : Nat) : gk_M l E y_Jt_statement b_Jt_statement 4 (some .int) 1 0 0 [.ref h0, .int xi, .int xj] [(h0, .inr (0, [.ref q1, .ref q2, .ref q7, .ref q8, .int 0, .null]))] sz (fun r w => r = some (.int (-1)) ∧ w = []) := by
  refine gk_met (by decide) (Nat.le_of_ble_eq_true rfl) ?_
  intro p e s m below meth c A ls X hl hP hD hS
  have hx := X.1
  have hb := X.2.1
  have hown := X.2.2.2.1
  have hts := X.2.2.2.2.1
  have hZ := X.2.2.2.2.2.2.1
  have hr := X.2.2.2.2.2.2.2.2.1
  have hlocks : meth.locks = false := X.2.2.2.2.2.2.2.2.2.1
  have hl : lv_has ls 4 [(0, .ref h0), (1, .int xi), (2, .int xj)] := hl
  refine lv_aload_n hx hb d_Jt_statement_0 rfl (lv_at hl 0 rfl) ?_
  refine lv_iload_n hx hb d_Jt_statement_1 rfl (lv_at hl 1 rfl) ?_
  refine gk_back (wr := []) (gk_runV (As := [.int xi]) (rest := []) (ci := 0) (q0 := 0) X (c_Jt_statementOf l E h0 q1 q2 q7 q8 xi s.heap.size) ok_Jt_statementOf (Or.inl k_929) k_931 k_20 rfl rfl rfl hP hD hS [0] rfl rfl hl.1 rfl (Nat.le_of_ble_eq_true rfl) d_Jt_statement_2 ⟨(Nat.le_of_ble_eq_true rfl), (Nat.le_of_ble_eq_true rfl)⟩ ⟨(Nat.le_of_ble_eq_true rfl), (Nat.le_of_ble_eq_true rfl)⟩) hP hD hS X.2.2.2.2.2.2.2.1 [0] [] rfl rfl rfl (by decide) (fun r w H locs hB hP hD hS => ?_)
  obtain ⟨rfl, rfl⟩ := hB
  have hP : va_P E.1 gk_cl [(h0, .inr (0, [.ref q1, .ref q2, .ref q7, .ref q8, .int 0, .null]))] H := hP
  have hD : va_D A [(h0, .inr (0, [.ref q1, .ref q2, .ref q7, .ref q8, .int 0, .null]))] := hD
  refine W.widen (k := 0) (n := 0) (by omega) (by omega) ?_
  refine W.eq (g2 := F0 m 5 ls [.null]) rfl ?_
  refine lv_astore_nN (lv' := [(3, .null), (0, .ref h0), (1, .int xi), (2, .int xj)]) hx hb d_Jt_statement_5 rfl hl (by decide) rfl (fun ls hl => ?_)
  refine lv_aload_nN hx hb d_Jt_statement_6 rfl (lv_at hl 0 rfl) ?_
  refine lv_ifnonnullN hx hb d_Jt_statement_7 ?_
  refine lv_iconst (v := (-1)) hx hb d_Jt_statement_10 (by decide) ?_
  refine lv_goto (tgt := 19) hx hb d_Jt_statement_11 (by decide) ?_
  have hP9 := hP.sub (ws' := []) [] rfl
  have hD9 := hD.sub (ws' := []) [] (by decide) rfl
  refine W.widen (k := 0) (n := 0) (Nat.le_of_ble_eq_true rfl) (Nat.le_of_ble_eq_true rfl) ?_
  exact W.iret hx hb hr (gk_q hP9 hD9 hS ⟨rfl, rfl⟩) hS.2.2 d_Jt_statement_19

set_option maxHeartbeats 4000000 in
set_option maxRecDepth 100000 in
theorem c_Jt_parameter (l : Launch) (E : gk_E) (h0 : Nat) (q1 : Nat) (q2 : Nat) (q7 : Nat) (q8 : Nat) (xi : Int32) (xj : Int32) (xk : Int32) (sz : Nat) : gk_M l E y_Jt_parameter b_Jt_parameter 5 (some .int) 1 0 0 [.ref h0, .int xi, .int xj, .int xk] [(h0, .inr (0, [.ref q1, .ref q2, .ref q7, .ref q8, .int 0, .null]))] sz (fun r w => r = some (.int (-1)) ∧ w = []) := by
  refine gk_met (by decide) (Nat.le_of_ble_eq_true rfl) ?_
  intro p e s m below meth c A ls X hl hP hD hS
  have hx := X.1
  have hb := X.2.1
  have hown := X.2.2.2.1
  have hts := X.2.2.2.2.1
  have hZ := X.2.2.2.2.2.2.1
  have hr := X.2.2.2.2.2.2.2.2.1
  have hlocks : meth.locks = false := X.2.2.2.2.2.2.2.2.2.1
  have hl : lv_has ls 5 [(0, .ref h0), (1, .int xi), (2, .int xj), (3, .int xk)] := hl
  refine lv_aload_n hx hb d_Jt_parameter_0 rfl (lv_at hl 0 rfl) ?_
  refine lv_iload_n hx hb d_Jt_parameter_1 rfl (lv_at hl 1 rfl) ?_
  refine gk_back (wr := []) (gk_runV (As := [.int xi]) (rest := []) (ci := 0) (q0 := 0) X (c_Jt_statementOf l E h0 q1 q2 q7 q8 xi s.heap.size) ok_Jt_statementOf (Or.inl k_929) k_931 k_20 rfl rfl rfl hP hD hS [0] rfl rfl hl.1 rfl (Nat.le_of_ble_eq_true rfl) d_Jt_parameter_2 ⟨(Nat.le_of_ble_eq_true rfl), (Nat.le_of_ble_eq_true rfl)⟩ ⟨(Nat.le_of_ble_eq_true rfl), (Nat.le_of_ble_eq_true rfl)⟩) hP hD hS X.2.2.2.2.2.2.2.1 [0] [] rfl rfl rfl (by decide) (fun r w H locs hB hP hD hS => ?_)
  obtain ⟨rfl, rfl⟩ := hB
  have hP : va_P E.1 gk_cl [(h0, .inr (0, [.ref q1, .ref q2, .ref q7, .ref q8, .int 0, .null]))] H := hP
  have hD : va_D A [(h0, .inr (0, [.ref q1, .ref q2, .ref q7, .ref q8, .int 0, .null]))] := hD
  refine W.widen (k := 0) (n := 0) (by omega) (by omega) ?_
  refine W.eq (g2 := F0 m 5 ls [.null]) rfl ?_
  refine lv_astoreN (lv' := [(4, .null), (0, .ref h0), (1, .int xi), (2, .int xj), (3, .int xk)]) hx hb d_Jt_parameter_5 hl (by decide) rfl (fun ls hl => ?_)
  refine lv_aloadN hx hb d_Jt_parameter_7 (lv_at hl 0 rfl) ?_
  refine lv_ifnullN (tgt := 25) hx hb d_Jt_parameter_9 (by decide) ?_
  refine lv_iconst (v := (-1)) hx hb d_Jt_parameter_25 (by decide) ?_
  have hP9 := hP.sub (ws' := []) [] rfl
  have hD9 := hD.sub (ws' := []) [] (by decide) rfl
  refine W.widen (k := 0) (n := 0) (Nat.le_of_ble_eq_true rfl) (Nat.le_of_ble_eq_true rfl) ?_
  exact W.iret hx hb hr (gk_q hP9 hD9 hS ⟨rfl, rfl⟩) hS.2.2 d_Jt_parameter_26

set_option maxHeartbeats 4000000 in
set_option maxRecDepth 100000 in
theorem c_Jt_data (l : Launch) (E : gk_E) (h0 : Nat) (q1 : Nat) (q2 : Nat) (q7 : Nat) (q8 : Nat) (xi : Int32) (xj : Int32) (sz : Nat) : gk_M l E y_Jt_data b_Jt_data 4 (some .int) 1 0 0 [.ref h0, .int xi, .int xj] [(h0, .inr (0, [.ref q1, .ref q2, .ref q7, .ref q8, .int 0, .null]))] sz (fun r w => r = some (.int (-1)) ∧ w = []) := by
  refine gk_met (by decide) (Nat.le_of_ble_eq_true rfl) ?_
  intro p e s m below meth c A ls X hl hP hD hS
  have hx := X.1
  have hb := X.2.1
  have hown := X.2.2.2.1
  have hts := X.2.2.2.2.1
  have hZ := X.2.2.2.2.2.2.1
  have hr := X.2.2.2.2.2.2.2.2.1
  have hlocks : meth.locks = false := X.2.2.2.2.2.2.2.2.2.1
  have hl : lv_has ls 4 [(0, .ref h0), (1, .int xi), (2, .int xj)] := hl
  refine lv_aload_n hx hb d_Jt_data_0 rfl (lv_at hl 0 rfl) ?_
  refine lv_iload_n hx hb d_Jt_data_1 rfl (lv_at hl 1 rfl) ?_
  refine gk_back (wr := []) (gk_runV (As := [.int xi]) (rest := []) (ci := 0) (q0 := 0) X (c_Jt_statementOf l E h0 q1 q2 q7 q8 xi s.heap.size) ok_Jt_statementOf (Or.inl k_929) k_931 k_20 rfl rfl rfl hP hD hS [0] rfl rfl hl.1 rfl (Nat.le_of_ble_eq_true rfl) d_Jt_data_2 ⟨(Nat.le_of_ble_eq_true rfl), (Nat.le_of_ble_eq_true rfl)⟩ ⟨(Nat.le_of_ble_eq_true rfl), (Nat.le_of_ble_eq_true rfl)⟩) hP hD hS X.2.2.2.2.2.2.2.1 [0] [] rfl rfl rfl (by decide) (fun r w H locs hB hP hD hS => ?_)
  obtain ⟨rfl, rfl⟩ := hB
  have hP : va_P E.1 gk_cl [(h0, .inr (0, [.ref q1, .ref q2, .ref q7, .ref q8, .int 0, .null]))] H := hP
  have hD : va_D A [(h0, .inr (0, [.ref q1, .ref q2, .ref q7, .ref q8, .int 0, .null]))] := hD
  refine W.widen (k := 0) (n := 0) (by omega) (by omega) ?_
  refine W.eq (g2 := F0 m 5 ls [.null]) rfl ?_
  refine lv_astore_nN (lv' := [(3, .null), (0, .ref h0), (1, .int xi), (2, .int xj)]) hx hb d_Jt_data_5 rfl hl (by decide) rfl (fun ls hl => ?_)
  refine lv_aload_nN hx hb d_Jt_data_6 rfl (lv_at hl 0 rfl) ?_
  refine lv_ifnullN (tgt := 22) hx hb d_Jt_data_7 (by decide) ?_
  refine lv_iconst (v := (-1)) hx hb d_Jt_data_22 (by decide) ?_
  have hP9 := hP.sub (ws' := []) [] rfl
  have hD9 := hD.sub (ws' := []) [] (by decide) rfl
  refine W.widen (k := 0) (n := 0) (Nat.le_of_ble_eq_true rfl) (Nat.le_of_ble_eq_true rfl) ?_
  exact W.iret hx hb hr (gk_q hP9 hD9 hS ⟨rfl, rfl⟩) hS.2.2 d_Jt_data_23

set_option maxHeartbeats 4000000 in
set_option maxRecDepth 100000 in
theorem c_Jt_fault (l : Launch) (E : gk_E) (h0 : Nat) (q1 : Nat) (q2 : Nat) (q7 : Nat) (q8 : Nat) (q3 : Nat) (q4 : Nat) (q5 : Nat) (q6 : Nat) (xi : Int32) (xj : Int32) (sz : Nat) : gk_M l E y_Jt_fault b_Jt_fault 3 (some .int) 1 0 0 [.ref h0, .int xi, .int xj] [(h0, .inr (0, [.ref q1, .ref q2, .ref q7, .ref q8, .int 0, .null])), (q2, .inr (1, [.ref q3, .ref q4, .ref q5, .ref q6, .int 0]))] sz (fun r w => r = some (.int (-1)) ∧ w = []) := by
  refine gk_met (by decide) (Nat.le_of_ble_eq_true rfl) ?_
  intro p e s m below meth c A ls X hl hP hD hS
  have hx := X.1
  have hb := X.2.1
  have hown := X.2.2.2.1
  have hts := X.2.2.2.2.1
  have hZ := X.2.2.2.2.2.2.1
  have hr := X.2.2.2.2.2.2.2.2.1
  have hlocks : meth.locks = false := X.2.2.2.2.2.2.2.2.2.1
  have hl : lv_has ls 3 [(0, .ref h0), (1, .int xi), (2, .int xj)] := hl
  refine lv_aload_n hx hb d_Jt_fault_0 rfl (lv_at hl 0 rfl) ?_
  refine gk_get (b := h0) (ci := 0) (v := .ref q2) X in_Jt hP 0 rfl rfl 1 (by decide) k_303 rfl d_Jt_fault_1 ?_
  refine lv_iload_n hx hb d_Jt_fault_4 rfl (lv_at hl 1 rfl) ?_
  refine lv_iload_n hx hb d_Jt_fault_5 rfl (lv_at hl 2 rfl) ?_
  refine gk_back (wr := [(h0, .inr (0, [.ref q1, .ref q2, .ref q7, .ref q8, .int 0, .null]))]) (gk_runV (As := [.int xi, .int xj]) (rest := []) (ci := 1) (q0 := 1) X (c_Fa_tell l E q2 q3 q4 q5 q6 xi xj s.heap.size) ok_Fa_tell (Or.inl k_963) k_964 k_965 rfl rfl rfl hP hD hS [1] rfl rfl hl.1 rfl (Nat.le_of_ble_eq_true rfl) d_Jt_fault_6 ⟨(Nat.le_of_ble_eq_true rfl), (Nat.le_of_ble_eq_true rfl)⟩ ⟨(Nat.le_of_ble_eq_true rfl), (Nat.le_of_ble_eq_true rfl)⟩) hP hD hS X.2.2.2.2.2.2.2.1 [1] [0] rfl rfl rfl (by decide) (fun r w H locs hB hP hD hS => ?_)
  obtain ⟨rfl, rfl⟩ := hB
  have hP : va_P E.1 gk_cl [(h0, .inr (0, [.ref q1, .ref q2, .ref q7, .ref q8, .int 0, .null]))] H := hP
  have hD : va_D A [(h0, .inr (0, [.ref q1, .ref q2, .ref q7, .ref q8, .int 0, .null]))] := hD
  refine W.widen (k := 0) (n := 0) (by omega) (by omega) ?_
  refine W.eq (g2 := F0 m 9 ls [.int (-1)]) rfl ?_
  have hP9 := hP.sub (ws' := []) [] rfl
  have hD9 := hD.sub (ws' := []) [] (by decide) rfl
  refine W.widen (k := 0) (n := 0) (Nat.le_of_ble_eq_true rfl) (Nat.le_of_ble_eq_true rfl) ?_
  exact W.iret hx hb hr (gk_q hP9 hD9 hS ⟨rfl, rfl⟩) hS.2.2 d_Jt_fault_9

set_option maxHeartbeats 4000000 in
set_option maxRecDepth 100000 in
theorem c_Jt_expand (l : Launch) (E : gk_E) (h0 : Nat) (q1 : Nat) (q2 : Nat) (q7 : Nat) (q8 : Nat) (sz : Nat) : gk_M l E y_Jt_expand b_Jt_expand 2 (some .int) 1 0 0 [.ref h0] [(h0, .inr (0, [.ref q1, .ref q2, .ref q7, .ref q8, .int 0, .null]))] sz (fun r w => r = some (.int (-2)) ∧ w = []) := by
  refine gk_met (by decide) (Nat.le_of_ble_eq_true rfl) ?_
  intro p e s m below meth c A ls X hl hP hD hS
  have hx := X.1
  have hb := X.2.1
  have hown := X.2.2.2.1
  have hts := X.2.2.2.2.1
  have hZ := X.2.2.2.2.2.2.1
  have hr := X.2.2.2.2.2.2.2.2.1
  have hlocks : meth.locks = false := X.2.2.2.2.2.2.2.2.2.1
  have hl : lv_has ls 2 [(0, .ref h0)] := hl
  refine lv_aload_n hx hb d_Jt_expand_0 rfl (lv_at hl 0 rfl) ?_
  refine gk_back (wr := []) (gk_runV (As := []) (rest := []) (ci := 0) (q0 := 0) X (c_Jt_hasJob l E h0 q1 q2 q7 q8 s.heap.size) ok_Jt_hasJob (Or.inl k_971) k_973 k_21 rfl rfl rfl hP hD hS [0] rfl rfl hl.1 rfl (Nat.le_of_ble_eq_true rfl) d_Jt_expand_1 ⟨(Nat.le_of_ble_eq_true rfl), (Nat.le_of_ble_eq_true rfl)⟩ ⟨(Nat.le_of_ble_eq_true rfl), (Nat.le_of_ble_eq_true rfl)⟩) hP hD hS X.2.2.2.2.2.2.2.1 [0] [] rfl rfl rfl (by decide) (fun r w H locs hB hP hD hS => ?_)
  obtain ⟨rfl, rfl⟩ := hB
  have hP : va_P E.1 gk_cl [(h0, .inr (0, [.ref q1, .ref q2, .ref q7, .ref q8, .int 0, .null]))] H := hP
  have hD : va_D A [(h0, .inr (0, [.ref q1, .ref q2, .ref q7, .ref q8, .int 0, .null]))] := hD
  refine W.widen (k := 0) (n := 0) (by omega) (by omega) ?_
  refine W.eq (g2 := F0 m 4 ls [.int 0]) rfl ?_
  refine lv_if_ne (tgt := 10) hx hb d_Jt_expand_4 (by decide) (fun c9 => absurd (by decide) c9) (fun _ => ?_)
  refine lv_bipush (v := (-2)) hx hb d_Jt_expand_7 (by decide) ?_
  have hP9 := hP.sub (ws' := []) [] rfl
  have hD9 := hD.sub (ws' := []) [] (by decide) rfl
  refine W.widen (k := 0) (n := 0) (Nat.le_of_ble_eq_true rfl) (Nat.le_of_ble_eq_true rfl) ?_
  exact W.iret hx hb hr (gk_q hP9 hD9 hS ⟨rfl, rfl⟩) hS.2.2 d_Jt_expand_9

set_option maxHeartbeats 4000000 in
set_option maxRecDepth 100000 in
theorem c_Jt_at (l : Launch) (E : gk_E) (h0 : Nat) (q1 : Nat) (q2 : Nat) (q7 : Nat) (q8 : Nat) (q9 : Nat) (q10 : Nat) (q11 : Nat) (q12 : Nat) (q13 : Nat) (q14 : Nat) (q15 : Nat) (q16 : Nat) (q17 : Nat) (q18 : Nat) (q19 : Nat) (q20 : Nat) (q21 : Nat) (q22 : Nat) (xi : Int32) (xj : Int32) (sz : Nat) : gk_M l E y_Jt_at b_Jt_at 3 (some .int) 1 0 0 [.ref h0, .int xi, .int xj] [(h0, .inr (0, [.ref q1, .ref q2, .ref q7, .ref q8, .int 0, .null])), (q8, .inr (2, [.ref q9, .ref q10, .ref q11, .ref q12, .ref q13, .ref q14, .ref q15, .int 0, .int 0, .long 0, .int 0, .int 0])), (q9, .inr (3, [.ref q16, .ref q17, .ref q18, .ref q19, .ref q20, .ref q21, .ref q22, .int 0]))] sz (fun r w => r = some (.int (-1)) ∧ w = []) := by
  refine gk_met (by decide) (Nat.le_of_ble_eq_true rfl) ?_
  intro p e s m below meth c A ls X hl hP hD hS
  have hx := X.1
  have hb := X.2.1
  have hown := X.2.2.2.1
  have hts := X.2.2.2.2.1
  have hZ := X.2.2.2.2.2.2.1
  have hr := X.2.2.2.2.2.2.2.2.1
  have hlocks : meth.locks = false := X.2.2.2.2.2.2.2.2.2.1
  have hl : lv_has ls 3 [(0, .ref h0), (1, .int xi), (2, .int xj)] := hl
  refine lv_aload_n hx hb d_Jt_at_0 rfl (lv_at hl 0 rfl) ?_
  refine gk_get (b := h0) (ci := 0) (v := .ref q8) X in_Jt hP 0 rfl rfl 3 (by decide) k_305 rfl d_Jt_at_1 ?_
  refine gk_back (wr := [(h0, .inr (0, [.ref q1, .ref q2, .ref q7, .ref q8, .int 0, .null])), (q9, .inr (3, [.ref q16, .ref q17, .ref q18, .ref q19, .ref q20, .ref q21, .ref q22, .int 0]))]) (gk_runV (As := []) (rest := []) (ci := 2) (q0 := 1) X (c_Ex_listing l E q8 q9 q10 q11 q12 q13 q14 q15 s.heap.size) ok_Ex_listing (Or.inl k_1302) k_1303 k_1304 rfl rfl rfl hP hD hS [1] rfl rfl hl.1 rfl (Nat.le_of_ble_eq_true rfl) d_Jt_at_4 ⟨(Nat.le_of_ble_eq_true rfl), (Nat.le_of_ble_eq_true rfl)⟩ ⟨(Nat.le_of_ble_eq_true rfl), (Nat.le_of_ble_eq_true rfl)⟩) hP hD hS X.2.2.2.2.2.2.2.1 [1] [0, 2] rfl rfl rfl (by decide) (fun r w H locs hB hP hD hS => ?_)
  obtain ⟨rfl, rfl⟩ := hB
  have hP : va_P E.1 gk_cl [(h0, .inr (0, [.ref q1, .ref q2, .ref q7, .ref q8, .int 0, .null])), (q9, .inr (3, [.ref q16, .ref q17, .ref q18, .ref q19, .ref q20, .ref q21, .ref q22, .int 0])), (q8, .inr (2, [.ref q9, .ref q10, .ref q11, .ref q12, .ref q13, .ref q14, .ref q15, .int 0, .int 0, .long 0, .int 0, .int 0]))] H := hP
  have hD : va_D A [(h0, .inr (0, [.ref q1, .ref q2, .ref q7, .ref q8, .int 0, .null])), (q9, .inr (3, [.ref q16, .ref q17, .ref q18, .ref q19, .ref q20, .ref q21, .ref q22, .int 0])), (q8, .inr (2, [.ref q9, .ref q10, .ref q11, .ref q12, .ref q13, .ref q14, .ref q15, .int 0, .int 0, .long 0, .int 0, .int 0]))] := hD
  refine W.widen (k := 0) (n := 0) (by omega) (by omega) ?_
  refine W.eq (g2 := F0 m 7 ls [.ref q9]) rfl ?_
  refine lv_iload_n hx hb d_Jt_at_7 rfl (lv_at hl 1 rfl) ?_
  refine lv_iload_n hx hb d_Jt_at_8 rfl (lv_at hl 2 rfl) ?_
  refine gk_back (wr := [(h0, .inr (0, [.ref q1, .ref q2, .ref q7, .ref q8, .int 0, .null])), (q8, .inr (2, [.ref q9, .ref q10, .ref q11, .ref q12, .ref q13, .ref q14, .ref q15, .int 0, .int 0, .long 0, .int 0, .int 0]))]) (gk_runV (As := [.int xi, .int xj]) (rest := []) (ci := 3) (q0 := 1) X (c_Li_tell l E q9 q16 q17 q18 q19 q20 q21 q22 xi xj H.size) ok_Li_tell (Or.inl k_1306) k_1307 k_1308 rfl rfl rfl hP hD hS [1] rfl rfl hl.1 rfl (Nat.le_of_ble_eq_true rfl) d_Jt_at_9 ⟨(Nat.le_of_ble_eq_true rfl), (Nat.le_of_ble_eq_true rfl)⟩ ⟨(Nat.le_of_ble_eq_true rfl), (Nat.le_of_ble_eq_true rfl)⟩) hP hD hS X.2.2.2.2.2.2.2.1 [1] [0, 2] rfl rfl rfl (by decide) (fun r w H locs hB hP hD hS => ?_)
  obtain ⟨rfl, rfl⟩ := hB
  have hP : va_P E.1 gk_cl [(h0, .inr (0, [.ref q1, .ref q2, .ref q7, .ref q8, .int 0, .null])), (q8, .inr (2, [.ref q9, .ref q10, .ref q11, .ref q12, .ref q13, .ref q14, .ref q15, .int 0, .int 0, .long 0, .int 0, .int 0]))] H := hP
  have hD : va_D A [(h0, .inr (0, [.ref q1, .ref q2, .ref q7, .ref q8, .int 0, .null])), (q8, .inr (2, [.ref q9, .ref q10, .ref q11, .ref q12, .ref q13, .ref q14, .ref q15, .int 0, .int 0, .long 0, .int 0, .int 0]))] := hD
  refine W.widen (k := 0) (n := 0) (by omega) (by omega) ?_
  refine W.eq (g2 := F0 m 12 ls [.int (-1)]) rfl ?_
  have hP9 := hP.sub (ws' := []) [] rfl
  have hD9 := hD.sub (ws' := []) [] (by decide) rfl
  refine W.widen (k := 0) (n := 0) (Nat.le_of_ble_eq_true rfl) (Nat.le_of_ble_eq_true rfl) ?_
  exact W.iret hx hb hr (gk_q hP9 hD9 hS ⟨rfl, rfl⟩) hS.2.2 d_Jt_at_12

set_option maxHeartbeats 4000000 in
set_option maxRecDepth 100000 in
theorem c_Jt_letter (l : Launch) (E : gk_E) (h0 : Nat) (q1 : Nat) (q2 : Nat) (q7 : Nat) (q8 : Nat) (q9 : Nat) (q10 : Nat) (q11 : Nat) (q12 : Nat) (q13 : Nat) (q14 : Nat) (q15 : Nat) (q16 : Nat) (q17 : Nat) (q18 : Nat) (q19 : Nat) (q20 : Nat) (q21 : Nat) (q22 : Nat) (xi : Int32) (xj : Int32) (sz : Nat) : gk_M l E y_Jt_letter b_Jt_letter 3 (some .int) 1 0 0 [.ref h0, .int xi, .int xj] [(h0, .inr (0, [.ref q1, .ref q2, .ref q7, .ref q8, .int 0, .null])), (q8, .inr (2, [.ref q9, .ref q10, .ref q11, .ref q12, .ref q13, .ref q14, .ref q15, .int 0, .int 0, .long 0, .int 0, .int 0])), (q9, .inr (3, [.ref q16, .ref q17, .ref q18, .ref q19, .ref q20, .ref q21, .ref q22, .int 0]))] sz (fun r w => r = some (.int (-1)) ∧ w = []) := by
  refine gk_met (by decide) (Nat.le_of_ble_eq_true rfl) ?_
  intro p e s m below meth c A ls X hl hP hD hS
  have hx := X.1
  have hb := X.2.1
  have hown := X.2.2.2.1
  have hts := X.2.2.2.2.1
  have hZ := X.2.2.2.2.2.2.1
  have hr := X.2.2.2.2.2.2.2.2.1
  have hlocks : meth.locks = false := X.2.2.2.2.2.2.2.2.2.1
  have hl : lv_has ls 3 [(0, .ref h0), (1, .int xi), (2, .int xj)] := hl
  refine lv_aload_n hx hb d_Jt_letter_0 rfl (lv_at hl 0 rfl) ?_
  refine gk_get (b := h0) (ci := 0) (v := .ref q8) X in_Jt hP 0 rfl rfl 3 (by decide) k_305 rfl d_Jt_letter_1 ?_
  refine gk_back (wr := [(h0, .inr (0, [.ref q1, .ref q2, .ref q7, .ref q8, .int 0, .null])), (q9, .inr (3, [.ref q16, .ref q17, .ref q18, .ref q19, .ref q20, .ref q21, .ref q22, .int 0]))]) (gk_runV (As := []) (rest := []) (ci := 2) (q0 := 1) X (c_Ex_listing l E q8 q9 q10 q11 q12 q13 q14 q15 s.heap.size) ok_Ex_listing (Or.inl k_1302) k_1303 k_1304 rfl rfl rfl hP hD hS [1] rfl rfl hl.1 rfl (Nat.le_of_ble_eq_true rfl) d_Jt_letter_4 ⟨(Nat.le_of_ble_eq_true rfl), (Nat.le_of_ble_eq_true rfl)⟩ ⟨(Nat.le_of_ble_eq_true rfl), (Nat.le_of_ble_eq_true rfl)⟩) hP hD hS X.2.2.2.2.2.2.2.1 [1] [0, 2] rfl rfl rfl (by decide) (fun r w H locs hB hP hD hS => ?_)
  obtain ⟨rfl, rfl⟩ := hB
  have hP : va_P E.1 gk_cl [(h0, .inr (0, [.ref q1, .ref q2, .ref q7, .ref q8, .int 0, .null])), (q9, .inr (3, [.ref q16, .ref q17, .ref q18, .ref q19, .ref q20, .ref q21, .ref q22, .int 0])), (q8, .inr (2, [.ref q9, .ref q10, .ref q11, .ref q12, .ref q13, .ref q14, .ref q15, .int 0, .int 0, .long 0, .int 0, .int 0]))] H := hP
  have hD : va_D A [(h0, .inr (0, [.ref q1, .ref q2, .ref q7, .ref q8, .int 0, .null])), (q9, .inr (3, [.ref q16, .ref q17, .ref q18, .ref q19, .ref q20, .ref q21, .ref q22, .int 0])), (q8, .inr (2, [.ref q9, .ref q10, .ref q11, .ref q12, .ref q13, .ref q14, .ref q15, .int 0, .int 0, .long 0, .int 0, .int 0]))] := hD
  refine W.widen (k := 0) (n := 0) (by omega) (by omega) ?_
  refine W.eq (g2 := F0 m 7 ls [.ref q9]) rfl ?_
  refine lv_iload_n hx hb d_Jt_letter_7 rfl (lv_at hl 1 rfl) ?_
  refine lv_iload_n hx hb d_Jt_letter_8 rfl (lv_at hl 2 rfl) ?_
  refine gk_back (wr := [(h0, .inr (0, [.ref q1, .ref q2, .ref q7, .ref q8, .int 0, .null])), (q8, .inr (2, [.ref q9, .ref q10, .ref q11, .ref q12, .ref q13, .ref q14, .ref q15, .int 0, .int 0, .long 0, .int 0, .int 0]))]) (gk_runV (As := [.int xi, .int xj]) (rest := []) (ci := 3) (q0 := 1) X (c_Li_letterOf l E q9 q16 q17 q18 q19 q20 q21 q22 xi xj H.size) ok_Li_letterOf (Or.inl k_1314) k_1315 k_1316 rfl rfl rfl hP hD hS [1] rfl rfl hl.1 rfl (Nat.le_of_ble_eq_true rfl) d_Jt_letter_9 ⟨(Nat.le_of_ble_eq_true rfl), (Nat.le_of_ble_eq_true rfl)⟩ ⟨(Nat.le_of_ble_eq_true rfl), (Nat.le_of_ble_eq_true rfl)⟩) hP hD hS X.2.2.2.2.2.2.2.1 [1] [0, 2] rfl rfl rfl (by decide) (fun r w H locs hB hP hD hS => ?_)
  obtain ⟨rfl, rfl⟩ := hB
  have hP : va_P E.1 gk_cl [(h0, .inr (0, [.ref q1, .ref q2, .ref q7, .ref q8, .int 0, .null])), (q8, .inr (2, [.ref q9, .ref q10, .ref q11, .ref q12, .ref q13, .ref q14, .ref q15, .int 0, .int 0, .long 0, .int 0, .int 0]))] H := hP
  have hD : va_D A [(h0, .inr (0, [.ref q1, .ref q2, .ref q7, .ref q8, .int 0, .null])), (q8, .inr (2, [.ref q9, .ref q10, .ref q11, .ref q12, .ref q13, .ref q14, .ref q15, .int 0, .int 0, .long 0, .int 0, .int 0]))] := hD
  refine W.widen (k := 0) (n := 0) (by omega) (by omega) ?_
  refine W.eq (g2 := F0 m 12 ls [.int (-1)]) rfl ?_
  have hP9 := hP.sub (ws' := []) [] rfl
  have hD9 := hD.sub (ws' := []) [] (by decide) rfl
  refine W.widen (k := 0) (n := 0) (Nat.le_of_ble_eq_true rfl) (Nat.le_of_ble_eq_true rfl) ?_
  exact W.iret hx hb hr (gk_q hP9 hD9 hS ⟨rfl, rfl⟩) hS.2.2 d_Jt_letter_12

set_option maxHeartbeats 4000000 in
set_option maxRecDepth 100000 in
theorem c_Jt_ring (l : Launch) (E : gk_E) (h0 : Nat) (q1 : Nat) (q2 : Nat) (q7 : Nat) (q8 : Nat) (q9 : Nat) (q10 : Nat) (q11 : Nat) (q12 : Nat) (q13 : Nat) (q14 : Nat) (q15 : Nat) (xi : Int32) (sz : Nat) : gk_M l E y_Jt_ring b_Jt_ring 2 (some .int) 3 0 0 [.ref h0, .int xi] [(h0, .inr (0, [.ref q1, .ref q2, .ref q7, .ref q8, .int 0, .null])), (q8, .inr (2, [.ref q9, .ref q10, .ref q11, .ref q12, .ref q13, .ref q14, .ref q15, .int 0, .int 0, .long 0, .int 0, .int 0]))] sz (fun r w => r = some (.int (-1)) ∧ w = []) := by
  refine gk_met (by decide) (Nat.le_of_ble_eq_true rfl) ?_
  intro p e s m below meth c A ls X hl hP hD hS
  have hx := X.1
  have hb := X.2.1
  have hown := X.2.2.2.1
  have hts := X.2.2.2.2.1
  have hZ := X.2.2.2.2.2.2.1
  have hr := X.2.2.2.2.2.2.2.2.1
  have hlocks : meth.locks = false := X.2.2.2.2.2.2.2.2.2.1
  have hl : lv_has ls 2 [(0, .ref h0), (1, .int xi)] := hl
  refine lv_aload_n hx hb d_Jt_ring_0 rfl (lv_at hl 0 rfl) ?_
  refine gk_get (b := h0) (ci := 0) (v := .ref q8) X in_Jt hP 0 rfl rfl 3 (by decide) k_305 rfl d_Jt_ring_1 ?_
  refine lv_iload_n hx hb d_Jt_ring_4 rfl (lv_at hl 1 rfl) ?_
  refine gk_back (wr := [(h0, .inr (0, [.ref q1, .ref q2, .ref q7, .ref q8, .int 0, .null]))]) (gk_runV (As := [.int xi]) (rest := []) (ci := 2) (q0 := 1) X (c_Ex_calledSign l E q8 q9 q10 q11 q12 q13 q14 q15 xi s.heap.size) ok_Ex_calledSign (Or.inl k_1332) k_1333 k_1334 rfl rfl rfl hP hD hS [1] rfl rfl hl.1 rfl (Nat.le_of_ble_eq_true rfl) d_Jt_ring_5 ⟨(Nat.le_of_ble_eq_true rfl), (Nat.le_of_ble_eq_true rfl)⟩ ⟨(Nat.le_of_ble_eq_true rfl), (Nat.le_of_ble_eq_true rfl)⟩) hP hD hS X.2.2.2.2.2.2.2.1 [1] [0] rfl rfl rfl (by decide) (fun r w H locs hB hP hD hS => ?_)
  obtain ⟨rfl, rfl⟩ := hB
  have hP : va_P E.1 gk_cl [(h0, .inr (0, [.ref q1, .ref q2, .ref q7, .ref q8, .int 0, .null]))] H := hP
  have hD : va_D A [(h0, .inr (0, [.ref q1, .ref q2, .ref q7, .ref q8, .int 0, .null]))] := hD
  refine W.widen (k := 0) (n := 0) (by omega) (by omega) ?_
  refine W.eq (g2 := F0 m 8 ls [.int (-1)]) rfl ?_
  have hP9 := hP.sub (ws' := []) [] rfl
  have hD9 := hD.sub (ws' := []) [] (by decide) rfl
  refine W.widen (k := 0) (n := 0) (Nat.le_of_ble_eq_true rfl) (Nat.le_of_ble_eq_true rfl) ?_
  exact W.iret hx hb hr (gk_q hP9 hD9 hS ⟨rfl, rfl⟩) hS.2.2 d_Jt_ring_8
