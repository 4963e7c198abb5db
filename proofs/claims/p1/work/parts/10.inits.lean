set_option maxHeartbeats 4000000 in
set_option maxRecDepth 100000 in
theorem c_Ac_init (l : Launch) (E : gk_E) (h0 : Nat) (sz : Nat) : gk_M l E y_Ac_init b_Ac_init 1 (none) 1 0 0 [.ref h0] [(h0, .inr (5, [.int 0, .null, .int 0]))] sz (fun r w => r = none ∧ w = [(h0, .inr (5, [.int 0, .null, .int 0]))]) := by
  refine gk_met (by decide) (Nat.le_of_ble_eq_true rfl) ?_
  intro p e s m below meth c A ls X hl hP hD hS
  have hx := X.1
  have hb := X.2.1
  have hown := X.2.2.2.1
  have hts := X.2.2.2.2.1
  have hZ := X.2.2.2.2.2.2.1
  have hr := X.2.2.2.2.2.2.2.2.1
  have hlocks : meth.locks = false := X.2.2.2.2.2.2.2.2.2.1
  have hl : lv_has ls 1 [(0, .ref h0)] := hl
  refine lv_aload_n hx hb d_Ac_init_0 rfl (lv_at hl 0 rfl) ?_
  refine gk_oi X k_160 k_123 k_124 hl.1 d_Ac_init_1 (Nat.le_of_ble_eq_true rfl) (Nat.le_of_ble_eq_true rfl) ?_
  have hP9 := hP.sub (ws' := [(h0, .inr (5, [.int 0, .null, .int 0]))]) [0] rfl
  have hD9 := hD.sub (ws' := [(h0, .inr (5, [.int 0, .null, .int 0]))]) [0] (by decide) rfl
  refine W.widen (k := 0) (n := 0) (Nat.le_of_ble_eq_true rfl) (Nat.le_of_ble_eq_true rfl) ?_
  exact W.vret hx hb hr (gk_q hP9 hD9 hS ⟨rfl, rfl⟩) hS.2.2 d_Ac_init_4

set_option maxHeartbeats 4000000 in
set_option maxRecDepth 100000 in
theorem c_Ab_init (l : Launch) (E : gk_E) (h0 : Nat) (sz : Nat) : gk_M l E y_Ab_init b_Ab_init 1 (none) 2 0 0 [.ref h0] [(h0, .inr (5, [.int 0, .null, .int 0]))] sz (fun r w => r = none ∧ w = [(h0, .inr (5, [.int 0, .null, .int 0]))]) := by
  refine gk_met (by decide) (Nat.le_of_ble_eq_true rfl) ?_
  intro p e s m below meth c A ls X hl hP hD hS
  have hx := X.1
  have hb := X.2.1
  have hown := X.2.2.2.1
  have hts := X.2.2.2.2.1
  have hZ := X.2.2.2.2.2.2.1
  have hr := X.2.2.2.2.2.2.2.2.1
  have hlocks : meth.locks = false := X.2.2.2.2.2.2.2.2.2.1
  have hl : lv_has ls 1 [(0, .ref h0)] := hl
  refine lv_aload_n hx hb d_Ab_init_0 rfl (lv_at hl 0 rfl) ?_
  refine gk_back (wr := []) (gk_runI (As := []) (rest := []) X (c_Ac_init l E h0 s.heap.size) ok_Ac_init (Or.inl k_157) k_158 rfl rfl hP hD hS [0] rfl rfl hl.1 rfl (Nat.le_of_ble_eq_true rfl) d_Ab_init_1 ⟨(Nat.le_of_ble_eq_true rfl), (Nat.le_of_ble_eq_true rfl)⟩ ⟨(Nat.le_of_ble_eq_true rfl), (Nat.le_of_ble_eq_true rfl)⟩) hP hD hS X.2.2.2.2.2.2.2.1 [0] [] rfl rfl rfl (by decide) (fun r w H locs hB hP hD hS => ?_)
  obtain ⟨rfl, rfl⟩ := hB
  have hP : va_P E.1 gk_cl [(h0, .inr (5, [.int 0, .null, .int 0]))] H := hP
  have hD : va_D A [(h0, .inr (5, [.int 0, .null, .int 0]))] := hD
  refine W.widen (k := 0) (n := 0) (by omega) (by omega) ?_
  refine lv_aload_n hx hb d_Ab_init_4 rfl (lv_at hl 0 rfl) ?_
  refine lv_iconst (v := 0) hx hb d_Ab_init_5 (by decide) ?_
  refine gk_put (b := h0) (ci := 5) (v := .int 0) (ty := t_Al 0) (ws' := [(h0, .inr (5, [.int 0, .null, .int 0]))]) X in_Al t_Al t_Al_ok n_Al hP hD hS 0 rfl rfl 0 (by decide) k_165 (Or.inl rfl) (t_Al_ok 0 (by decide)) rfl rfl (Nat.le_of_ble_eq_true rfl) d_Ab_init_6 rfl (fun H locs hP hD hS => ?_)
  have hP9 := hP.sub (ws' := [(h0, .inr (5, [.int 0, .null, .int 0]))]) [0] rfl
  have hD9 := hD.sub (ws' := [(h0, .inr (5, [.int 0, .null, .int 0]))]) [0] (by decide) rfl
  refine W.widen (k := 0) (n := 0) (Nat.le_of_ble_eq_true rfl) (Nat.le_of_ble_eq_true rfl) ?_
  exact W.vret hx hb hr (gk_q hP9 hD9 hS ⟨rfl, rfl⟩) hS.2.2 d_Ab_init_9

set_option maxHeartbeats 4000000 in
set_option maxRecDepth 100000 in
theorem c_Al_init (l : Launch) (E : gk_E) (h0 : Nat) (sz : Nat) : gk_M l E y_Al_init b_Al_init 1 (none) 3 0 0 [.ref h0] [(h0, .inr (5, [.int 0, .null, .int 0]))] sz (fun r w => r = none ∧ w = [(h0, .inr (5, [.int 0, .ref E.2.2, .int 0]))]) := by
  refine gk_met (by decide) (Nat.le_of_ble_eq_true rfl) ?_
  intro p e s m below meth c A ls X hl hP hD hS
  have hx := X.1
  have hb := X.2.1
  have hown := X.2.2.2.1
  have hts := X.2.2.2.2.1
  have hZ := X.2.2.2.2.2.2.1
  have hr := X.2.2.2.2.2.2.2.2.1
  have hlocks : meth.locks = false := X.2.2.2.2.2.2.2.2.2.1
  have hl : lv_has ls 1 [(0, .ref h0)] := hl
  refine lv_aload_n hx hb d_Al_init_0 rfl (lv_at hl 0 rfl) ?_
  refine gk_back (wr := []) (gk_runI (As := []) (rest := []) X (c_Ab_init l E h0 s.heap.size) ok_Ab_init (Or.inl k_154) k_155 rfl rfl hP hD hS [0] rfl rfl hl.1 rfl (Nat.le_of_ble_eq_true rfl) d_Al_init_1 ⟨(Nat.le_of_ble_eq_true rfl), (Nat.le_of_ble_eq_true rfl)⟩ ⟨(Nat.le_of_ble_eq_true rfl), (Nat.le_of_ble_eq_true rfl)⟩) hP hD hS X.2.2.2.2.2.2.2.1 [0] [] rfl rfl rfl (by decide) (fun r w H locs hB hP hD hS => ?_)
  obtain ⟨rfl, rfl⟩ := hB
  have hP : va_P E.1 gk_cl [(h0, .inr (5, [.int 0, .null, .int 0]))] H := hP
  have hD : va_D A [(h0, .inr (5, [.int 0, .null, .int 0]))] := hD
  refine W.widen (k := 0) (n := 0) (by omega) (by omega) ?_
  refine lv_aload_n hx hb d_Al_init_4 rfl (lv_at hl 0 rfl) ?_
  refine va_gets hx hb hZ.1 hS hown (hts _ k_161) (fun _ h => h) d_Al_init_5 ?_
  refine gk_put (b := h0) (ci := 5) (v := .ref E.2.2) (ty := t_Al 1) (ws' := [(h0, .inr (5, [.int 0, .ref E.2.2, .int 0]))]) X in_Al t_Al t_Al_ok n_Al hP hD hS 0 rfl rfl 1 (by decide) k_163 (Or.inl rfl) (t_Al_ok 1 (by decide)) rfl rfl (Nat.le_of_ble_eq_true rfl) d_Al_init_8 rfl (fun H locs hP hD hS => ?_)
  have hP9 := hP.sub (ws' := [(h0, .inr (5, [.int 0, .ref E.2.2, .int 0]))]) [0] rfl
  have hD9 := hD.sub (ws' := [(h0, .inr (5, [.int 0, .ref E.2.2, .int 0]))]) [0] (by decide) rfl
  refine W.widen (k := 0) (n := 0) (Nat.le_of_ble_eq_true rfl) (Nat.le_of_ble_eq_true rfl) ?_
  exact W.vret hx hb hr (gk_q hP9 hD9 hS ⟨rfl, rfl⟩) hS.2.2 d_Al_init_11

set_option maxHeartbeats 4000000 in
set_option maxRecDepth 100000 in
theorem c_As_init (l : Launch) (E : gk_E) (h0 : Nat) (sz : Nat) : gk_M l E y_As_init b_As_init 2 (none) 1 1 16 [.ref h0, .int 16] [(h0, .inr (6, [.null, .int 0, .int 0, .int 0]))] sz (fun r w => ∃ q1 : Nat, r = none ∧ w = [(h0, .inr (6, [.ref q1, .int 0, .int 0, .int 0]))]) := by
  refine gk_met (by decide) (Nat.le_of_ble_eq_true rfl) ?_
  intro p e s m below meth c A ls X hl hP hD hS
  have hx := X.1
  have hb := X.2.1
  have hown := X.2.2.2.1
  have hts := X.2.2.2.2.1
  have hZ := X.2.2.2.2.2.2.1
  have hr := X.2.2.2.2.2.2.2.2.1
  have hlocks : meth.locks = false := X.2.2.2.2.2.2.2.2.2.1
  have hl : lv_has ls 2 [(0, .ref h0), (1, .int 16)] := hl
  refine lv_aload_n hx hb d_As_init_0 rfl (lv_at hl 0 rfl) ?_
  refine gk_oi X k_195 k_123 k_124 hl.1 d_As_init_1 (Nat.le_of_ble_eq_true rfl) (Nat.le_of_ble_eq_true rfl) ?_
  refine va_gets hx hb hZ.2 hS hown (hts _ k_196) (fun _ h => h) d_As_init_4 ?_
  refine lv_if_eq (tgt := 25) hx hb d_As_init_7 (by decide) (fun c9 => absurd c9 (by decide)) (fun _ => ?_)
  refine lv_aload_n hx hb d_As_init_10 rfl (lv_at hl 0 rfl) ?_
  refine lv_iload_n hx hb d_As_init_11 rfl (lv_at hl 1 rfl) ?_
  refine gk_newa (atype := .byte) (N' := 16) (a0 := (16, .inl (fun _ => 0))) X k_147 (ty := .byte) rfl 1 rfl hP hD hS (fun _ => rfl) (by decide) (by decide) (by decide) (Nat.le_of_ble_eq_true rfl) (Nat.le_of_ble_eq_true rfl) d_As_init_12 (fun q1 H hP hD hS => ?_)
  have hP := hP.sub (ws' := [(h0, .inr (6, [.null, .int 0, .int 0, .int 0]))]) [0] rfl
  have hD := hD.sub (ws' := [(h0, .inr (6, [.null, .int 0, .int 0, .int 0]))]) [0] (by decide) rfl
  refine W.widen (k := 1) (n := 16) (by omega) (by omega) ?_
  refine gk_put (b := h0) (ci := 6) (v := .ref q1) (ty := t_Sb 0) (ws' := [(h0, .inr (6, [.ref q1, .int 0, .int 0, .int 0]))]) X in_Sb t_Sb t_Sb_ok n_Sb hP hD hS 0 rfl rfl 0 (by decide) k_205 (Or.inl rfl) (t_Sb_ok 0 (by decide)) rfl rfl (Nat.le_of_ble_eq_true rfl) d_As_init_14 rfl (fun H locs hP hD hS => ?_)
  refine lv_aload_n hx hb d_As_init_17 rfl (lv_at hl 0 rfl) ?_
  refine lv_iconst (v := 0) hx hb d_As_init_18 (by decide) ?_
  refine gk_put (b := h0) (ci := 6) (v := .int 0) (ty := t_Sb 1) (ws' := [(h0, .inr (6, [.ref q1, .int 0, .int 0, .int 0]))]) X in_Sb t_Sb t_Sb_ok n_Sb hP hD hS 0 rfl rfl 1 (by decide) k_206 (Or.inl rfl) (t_Sb_ok 1 (by decide)) rfl rfl (Nat.le_of_ble_eq_true rfl) d_As_init_19 rfl (fun H locs hP hD hS => ?_)
  refine lv_goto (tgt := 38) hx hb d_As_init_22 (by decide) ?_
  have hP9 := hP.sub (ws' := [(h0, .inr (6, [.ref q1, .int 0, .int 0, .int 0]))]) [0] rfl
  have hD9 := hD.sub (ws' := [(h0, .inr (6, [.ref q1, .int 0, .int 0, .int 0]))]) [0] (by decide) rfl
  refine W.widen (k := 1) (n := 16) (Nat.le_of_ble_eq_true rfl) (Nat.le_of_ble_eq_true rfl) ?_
  exact W.vret hx hb hr (gk_q hP9 hD9 hS ⟨q1, rfl, rfl⟩) hS.2.2 d_As_init_38

set_option maxHeartbeats 4000000 in
set_option maxRecDepth 100000 in
theorem c_Sb_init (l : Launch) (E : gk_E) (h0 : Nat) (sz : Nat) : gk_M l E y_Sb_init b_Sb_init 1 (none) 2 1 16 [.ref h0] [(h0, .inr (6, [.null, .int 0, .int 0, .int 0]))] sz (fun r w => ∃ q1 : Nat, r = none ∧ w = [(h0, .inr (6, [.ref q1, .int 0, .int 0, .int 0]))]) := by
  refine gk_met (by decide) (Nat.le_of_ble_eq_true rfl) ?_
  intro p e s m below meth c A ls X hl hP hD hS
  have hx := X.1
  have hb := X.2.1
  have hown := X.2.2.2.1
  have hts := X.2.2.2.2.1
  have hZ := X.2.2.2.2.2.2.1
  have hr := X.2.2.2.2.2.2.2.2.1
  have hlocks : meth.locks = false := X.2.2.2.2.2.2.2.2.2.1
  have hl : lv_has ls 1 [(0, .ref h0)] := hl
  refine lv_aload_n hx hb d_Sb_init_0 rfl (lv_at hl 0 rfl) ?_
  refine lv_bipush (v := 16) hx hb d_Sb_init_1 (by decide) ?_
  refine gk_back (wr := []) (gk_runI (As := [.int 16]) (rest := []) X (c_As_init l E h0 s.heap.size) ok_As_init (Or.inl k_192) k_193 rfl rfl hP hD hS [0] rfl rfl hl.1 rfl (Nat.le_of_ble_eq_true rfl) d_Sb_init_3 ⟨(Nat.le_of_ble_eq_true rfl), (Nat.le_of_ble_eq_true rfl)⟩ ⟨(Nat.le_of_ble_eq_true rfl), (Nat.le_of_ble_eq_true rfl)⟩) hP hD hS X.2.2.2.2.2.2.2.1 [0] [] rfl rfl rfl (by decide) (fun r w H locs hB hP hD hS => ?_)
  obtain ⟨q1, rfl, rfl⟩ := hB
  have hP : va_P E.1 gk_cl [(h0, .inr (6, [.ref q1, .int 0, .int 0, .int 0]))] H := hP
  have hD : va_D A [(h0, .inr (6, [.ref q1, .int 0, .int 0, .int 0]))] := hD
  refine W.widen (k := 1) (n := 16) (by omega) (by omega) ?_
  have hP9 := hP.sub (ws' := [(h0, .inr (6, [.ref q1, .int 0, .int 0, .int 0]))]) [0] rfl
  have hD9 := hD.sub (ws' := [(h0, .inr (6, [.ref q1, .int 0, .int 0, .int 0]))]) [0] (by decide) rfl
  refine W.widen (k := 1) (n := 16) (Nat.le_of_ble_eq_true rfl) (Nat.le_of_ble_eq_true rfl) ?_
  exact W.vret hx hb hr (gk_q hP9 hD9 hS ⟨q1, rfl, rfl⟩) hS.2.2 d_Sb_init_6

set_option maxHeartbeats 4000000 in
set_option maxRecDepth 100000 in
theorem c_Fa_init (l : Launch) (E : gk_E) (h0 : Nat) (sz : Nat) : gk_M l E y_Fa_init b_Fa_init 1 (none) 1 4 120 [.ref h0] [(h0, .inr (1, [.null, .null, .null, .null, .int 0]))] sz (fun r w => ∃ q1 : Nat, ∃ q2 : Nat, ∃ q3 : Nat, ∃ q4 : Nat, r = none ∧ w = [(h0, .inr (1, [.ref q1, .ref q2, .ref q3, .ref q4, .int 0]))]) := by
  refine gk_met (by decide) (Nat.le_of_ble_eq_true rfl) ?_
  intro p e s m below meth c A ls X hl hP hD hS
  have hx := X.1
  have hb := X.2.1
  have hown := X.2.2.2.1
  have hts := X.2.2.2.2.1
  have hZ := X.2.2.2.2.2.2.1
  have hr := X.2.2.2.2.2.2.2.2.1
  have hlocks : meth.locks = false := X.2.2.2.2.2.2.2.2.2.1
  have hl : lv_has ls 1 [(0, .ref h0)] := hl
  refine lv_aload_n hx hb d_Fa_init_0 rfl (lv_at hl 0 rfl) ?_
  refine gk_oi X k_130 k_123 k_124 hl.1 d_Fa_init_1 (Nat.le_of_ble_eq_true rfl) (Nat.le_of_ble_eq_true rfl) ?_
  refine lv_aload_n hx hb d_Fa_init_4 rfl (lv_at hl 0 rfl) ?_
  refine lv_bipush (v := 30) hx hb d_Fa_init_5 (by decide) ?_
  refine gk_newa (atype := .int) (N' := 30) (a0 := (30, .inl (fun _ => 0))) X k_148 (ty := .int) rfl 0 rfl hP hD hS (fun _ => rfl) (by decide) (by decide) (by decide) (Nat.le_of_ble_eq_true rfl) (Nat.le_of_ble_eq_true rfl) d_Fa_init_7 (fun q1 H hP hD hS => ?_)
  have hP := hP.sub (ws' := [(h0, .inr (1, [.null, .null, .null, .null, .int 0]))]) [0] rfl
  have hD := hD.sub (ws' := [(h0, .inr (1, [.null, .null, .null, .null, .int 0]))]) [0] (by decide) rfl
  refine W.widen (k := 1) (n := 30) (by omega) (by omega) ?_
  refine gk_put (b := h0) (ci := 1) (v := .ref q1) (ty := t_Fa 0) (ws' := [(h0, .inr (1, [.ref q1, .null, .null, .null, .int 0]))]) X in_Fa t_Fa t_Fa_ok n_Fa hP hD hS 0 rfl rfl 0 (by decide) k_131 (Or.inr ⟨rfl, rfl, rfl⟩) (t_Fa_ok 0 (by decide)) rfl rfl (Nat.le_of_ble_eq_true rfl) d_Fa_init_9 rfl (fun H locs hP hD hS => ?_)
  refine lv_aload_n hx hb d_Fa_init_12 rfl (lv_at hl 0 rfl) ?_
  refine lv_bipush (v := 30) hx hb d_Fa_init_13 (by decide) ?_
  refine gk_newa (atype := .int) (N' := 30) (a0 := (30, .inl (fun _ => 0))) X k_148 (ty := .int) rfl 0 rfl hP hD hS (fun _ => rfl) (by decide) (by decide) (by decide) (Nat.le_of_ble_eq_true rfl) (Nat.le_of_ble_eq_true rfl) d_Fa_init_15 (fun q2 H hP hD hS => ?_)
  have hP := hP.sub (ws' := [(h0, .inr (1, [.ref q1, .null, .null, .null, .int 0]))]) [0] rfl
  have hD := hD.sub (ws' := [(h0, .inr (1, [.ref q1, .null, .null, .null, .int 0]))]) [0] (by decide) rfl
  refine W.widen (k := 2) (n := 60) (by omega) (by omega) ?_
  refine gk_put (b := h0) (ci := 1) (v := .ref q2) (ty := t_Fa 1) (ws' := [(h0, .inr (1, [.ref q1, .ref q2, .null, .null, .int 0]))]) X in_Fa t_Fa t_Fa_ok n_Fa hP hD hS 0 rfl rfl 1 (by decide) k_132 (Or.inr ⟨rfl, rfl, rfl⟩) (t_Fa_ok 1 (by decide)) rfl rfl (Nat.le_of_ble_eq_true rfl) d_Fa_init_17 rfl (fun H locs hP hD hS => ?_)
  refine lv_aload_n hx hb d_Fa_init_20 rfl (lv_at hl 0 rfl) ?_
  refine lv_bipush (v := 30) hx hb d_Fa_init_21 (by decide) ?_
  refine gk_newa (atype := .int) (N' := 30) (a0 := (30, .inl (fun _ => 0))) X k_148 (ty := .int) rfl 0 rfl hP hD hS (fun _ => rfl) (by decide) (by decide) (by decide) (Nat.le_of_ble_eq_true rfl) (Nat.le_of_ble_eq_true rfl) d_Fa_init_23 (fun q3 H hP hD hS => ?_)
  have hP := hP.sub (ws' := [(h0, .inr (1, [.ref q1, .ref q2, .null, .null, .int 0]))]) [0] rfl
  have hD := hD.sub (ws' := [(h0, .inr (1, [.ref q1, .ref q2, .null, .null, .int 0]))]) [0] (by decide) rfl
  refine W.widen (k := 3) (n := 90) (by omega) (by omega) ?_
  refine gk_put (b := h0) (ci := 1) (v := .ref q3) (ty := t_Fa 2) (ws' := [(h0, .inr (1, [.ref q1, .ref q2, .ref q3, .null, .int 0]))]) X in_Fa t_Fa t_Fa_ok n_Fa hP hD hS 0 rfl rfl 2 (by decide) k_133 (Or.inr ⟨rfl, rfl, rfl⟩) (t_Fa_ok 2 (by decide)) rfl rfl (Nat.le_of_ble_eq_true rfl) d_Fa_init_25 rfl (fun H locs hP hD hS => ?_)
  refine lv_aload_n hx hb d_Fa_init_28 rfl (lv_at hl 0 rfl) ?_
  refine lv_bipush (v := 30) hx hb d_Fa_init_29 (by decide) ?_
  refine gk_newa (atype := .int) (N' := 30) (a0 := (30, .inl (fun _ => 0))) X k_148 (ty := .int) rfl 0 rfl hP hD hS (fun _ => rfl) (by decide) (by decide) (by decide) (Nat.le_of_ble_eq_true rfl) (Nat.le_of_ble_eq_true rfl) d_Fa_init_31 (fun q4 H hP hD hS => ?_)
  have hP := hP.sub (ws' := [(h0, .inr (1, [.ref q1, .ref q2, .ref q3, .null, .int 0]))]) [0] rfl
  have hD := hD.sub (ws' := [(h0, .inr (1, [.ref q1, .ref q2, .ref q3, .null, .int 0]))]) [0] (by decide) rfl
  refine W.widen (k := 4) (n := 120) (by omega) (by omega) ?_
  refine gk_put (b := h0) (ci := 1) (v := .ref q4) (ty := t_Fa 3) (ws' := [(h0, .inr (1, [.ref q1, .ref q2, .ref q3, .ref q4, .int 0]))]) X in_Fa t_Fa t_Fa_ok n_Fa hP hD hS 0 rfl rfl 3 (by decide) k_134 (Or.inr ⟨rfl, rfl, rfl⟩) (t_Fa_ok 3 (by decide)) rfl rfl (Nat.le_of_ble_eq_true rfl) d_Fa_init_33 rfl (fun H locs hP hD hS => ?_)
  have hP9 := hP.sub (ws' := [(h0, .inr (1, [.ref q1, .ref q2, .ref q3, .ref q4, .int 0]))]) [0] rfl
  have hD9 := hD.sub (ws' := [(h0, .inr (1, [.ref q1, .ref q2, .ref q3, .ref q4, .int 0]))]) [0] (by decide) rfl
  refine W.widen (k := 4) (n := 120) (Nat.le_of_ble_eq_true rfl) (Nat.le_of_ble_eq_true rfl) ?_
  exact W.vret hx hb hr (gk_q hP9 hD9 hS ⟨q1, q2, q3, q4, rfl, rfl⟩) hS.2.2 d_Fa_init_36

set_option maxHeartbeats 4000000 in
set_option maxRecDepth 100000 in
theorem c_Ro_init (l : Launch) (E : gk_E) (h0 : Nat) (sz : Nat) : gk_M l E y_Ro_init b_Ro_init 1 (none) 1 3 256 [.ref h0] [(h0, .inr (4, [.null, .null, .null, .int 0]))] sz (fun r w => ∃ q1 : Nat, ∃ q2 : Nat, ∃ q3 : Nat, r = none ∧ w = [(h0, .inr (4, [.ref q1, .ref q2, .ref q3, .int 0]))]) := by
  refine gk_met (by decide) (Nat.le_of_ble_eq_true rfl) ?_
  intro p e s m below meth c A ls X hl hP hD hS
  have hx := X.1
  have hb := X.2.1
  have hown := X.2.2.2.1
  have hts := X.2.2.2.2.1
  have hZ := X.2.2.2.2.2.2.1
  have hr := X.2.2.2.2.2.2.2.2.1
  have hlocks : meth.locks = false := X.2.2.2.2.2.2.2.2.2.1
  have hl : lv_has ls 1 [(0, .ref h0)] := hl
  refine lv_aload_n hx hb d_Ro_init_0 rfl (lv_at hl 0 rfl) ?_
  refine gk_oi X k_248 k_123 k_124 hl.1 d_Ro_init_1 (Nat.le_of_ble_eq_true rfl) (Nat.le_of_ble_eq_true rfl) ?_
  refine lv_aload_n hx hb d_Ro_init_4 rfl (lv_at hl 0 rfl) ?_
  refine lv_bipush (v := 8) hx hb d_Ro_init_5 (by decide) ?_
  refine gk_newa (atype := .long) (N' := 8) (a0 := (8, .inr (.inl (fun _ => 0)))) X k_262 (ty := .long) rfl 2 rfl hP hD hS (fun _ => rfl) (by decide) (by decide) (by decide) (Nat.le_of_ble_eq_true rfl) (Nat.le_of_ble_eq_true rfl) d_Ro_init_7 (fun q1 H hP hD hS => ?_)
  have hP := hP.sub (ws' := [(h0, .inr (4, [.null, .null, .null, .int 0]))]) [0] rfl
  have hD := hD.sub (ws' := [(h0, .inr (4, [.null, .null, .null, .int 0]))]) [0] (by decide) rfl
  refine W.widen (k := 1) (n := 8) (by omega) (by omega) ?_
  refine gk_put (b := h0) (ci := 4) (v := .ref q1) (ty := t_Ro 0) (ws' := [(h0, .inr (4, [.ref q1, .null, .null, .int 0]))]) X in_Ro t_Ro t_Ro_ok n_Ro hP hD hS 0 rfl rfl 0 (by decide) k_249 (Or.inl rfl) (t_Ro_ok 0 (by decide)) rfl rfl (Nat.le_of_ble_eq_true rfl) d_Ro_init_9 rfl (fun H locs hP hD hS => ?_)
  refine lv_aload_n hx hb d_Ro_init_12 rfl (lv_at hl 0 rfl) ?_
  refine lv_bipush (v := 8) hx hb d_Ro_init_13 (by decide) ?_
  refine gk_newa (atype := .int) (N' := 8) (a0 := (8, .inl (fun _ => 0))) X k_148 (ty := .int) rfl 0 rfl hP hD hS (fun _ => rfl) (by decide) (by decide) (by decide) (Nat.le_of_ble_eq_true rfl) (Nat.le_of_ble_eq_true rfl) d_Ro_init_15 (fun q2 H hP hD hS => ?_)
  have hP := hP.sub (ws' := [(h0, .inr (4, [.ref q1, .null, .null, .int 0]))]) [0] rfl
  have hD := hD.sub (ws' := [(h0, .inr (4, [.ref q1, .null, .null, .int 0]))]) [0] (by decide) rfl
  refine W.widen (k := 2) (n := 16) (by omega) (by omega) ?_
  refine gk_put (b := h0) (ci := 4) (v := .ref q2) (ty := t_Ro 1) (ws' := [(h0, .inr (4, [.ref q1, .ref q2, .null, .int 0]))]) X in_Ro t_Ro t_Ro_ok n_Ro hP hD hS 0 rfl rfl 1 (by decide) k_250 (Or.inl rfl) (t_Ro_ok 1 (by decide)) rfl rfl (Nat.le_of_ble_eq_true rfl) d_Ro_init_17 rfl (fun H locs hP hD hS => ?_)
  refine lv_aload_n hx hb d_Ro_init_20 rfl (lv_at hl 0 rfl) ?_
  refine lv_sipush (v := 240) hx hb d_Ro_init_21 (by decide) ?_
  refine gk_newa (atype := .byte) (N' := 240) (a0 := (240, .inl (fun _ => 0))) X k_147 (ty := .byte) rfl 1 rfl hP hD hS (fun _ => rfl) (by decide) (by decide) (by decide) (Nat.le_of_ble_eq_true rfl) (Nat.le_of_ble_eq_true rfl) d_Ro_init_24 (fun q3 H hP hD hS => ?_)
  have hP := hP.sub (ws' := [(h0, .inr (4, [.ref q1, .ref q2, .null, .int 0]))]) [0] rfl
  have hD := hD.sub (ws' := [(h0, .inr (4, [.ref q1, .ref q2, .null, .int 0]))]) [0] (by decide) rfl
  refine W.widen (k := 3) (n := 256) (by omega) (by omega) ?_
  refine gk_put (b := h0) (ci := 4) (v := .ref q3) (ty := t_Ro 2) (ws' := [(h0, .inr (4, [.ref q1, .ref q2, .ref q3, .int 0]))]) X in_Ro t_Ro t_Ro_ok n_Ro hP hD hS 0 rfl rfl 2 (by decide) k_251 (Or.inl rfl) (t_Ro_ok 2 (by decide)) rfl rfl (Nat.le_of_ble_eq_true rfl) d_Ro_init_26 rfl (fun H locs hP hD hS => ?_)
  have hP9 := hP.sub (ws' := [(h0, .inr (4, [.ref q1, .ref q2, .ref q3, .int 0]))]) [0] rfl
  have hD9 := hD.sub (ws' := [(h0, .inr (4, [.ref q1, .ref q2, .ref q3, .int 0]))]) [0] (by decide) rfl
  refine W.widen (k := 3) (n := 256) (Nat.le_of_ble_eq_true rfl) (Nat.le_of_ble_eq_true rfl) ?_
  exact W.vret hx hb hr (gk_q hP9 hD9 hS ⟨q1, q2, q3, rfl, rfl⟩) hS.2.2 d_Ro_init_29

set_option maxHeartbeats 4000000 in
set_option maxRecDepth 100000 in
theorem c_Li_init (l : Launch) (E : gk_E) (h0 : Nat) (sz : Nat) : gk_M l E y_Li_init b_Li_init 1 (none) 3 8 620 [.ref h0] [(h0, .inr (3, [.null, .null, .null, .null, .null, .null, .null, .int 0]))] sz (fun r w => ∃ q1 : Nat, ∃ q2 : Nat, ∃ q3 : Nat, ∃ q4 : Nat, ∃ q5 : Nat, ∃ q6 : Nat, ∃ q7 : Nat, r = none ∧ w = [(h0, .inr (3, [.ref q1, .ref q2, .ref q3, .ref q4, .ref q5, .ref q6, .ref q7, .int 0]))]) := by
  refine gk_met (by decide) (Nat.le_of_ble_eq_true rfl) ?_
  intro p e s m below meth c A ls X hl hP hD hS
  have hx := X.1
  have hb := X.2.1
  have hown := X.2.2.2.1
  have hts := X.2.2.2.2.1
  have hZ := X.2.2.2.2.2.2.1
  have hr := X.2.2.2.2.2.2.2.2.1
  have hlocks : meth.locks = false := X.2.2.2.2.2.2.2.2.2.1
  have hl : lv_has ls 1 [(0, .ref h0)] := hl
  refine lv_aload_n hx hb d_Li_init_0 rfl (lv_at hl 0 rfl) ?_
  refine gk_oi X k_186 k_123 k_124 hl.1 d_Li_init_1 (Nat.le_of_ble_eq_true rfl) (Nat.le_of_ble_eq_true rfl) ?_
  refine lv_aload_n hx hb d_Li_init_4 rfl (lv_at hl 0 rfl) ?_
  refine lv_bipush (v := 100) hx hb d_Li_init_5 (by decide) ?_
  refine gk_newa (atype := .int) (N' := 100) (a0 := (100, .inl (fun _ => 0))) X k_148 (ty := .int) rfl 0 rfl hP hD hS (fun _ => rfl) (by decide) (by decide) (by decide) (Nat.le_of_ble_eq_true rfl) (Nat.le_of_ble_eq_true rfl) d_Li_init_7 (fun q1 H hP hD hS => ?_)
  have hP := hP.sub (ws' := [(h0, .inr (3, [.null, .null, .null, .null, .null, .null, .null, .int 0]))]) [0] rfl
  have hD := hD.sub (ws' := [(h0, .inr (3, [.null, .null, .null, .null, .null, .null, .null, .int 0]))]) [0] (by decide) rfl
  refine W.widen (k := 1) (n := 100) (by omega) (by omega) ?_
  refine gk_put (b := h0) (ci := 3) (v := .ref q1) (ty := t_Li 0) (ws' := [(h0, .inr (3, [.ref q1, .null, .null, .null, .null, .null, .null, .int 0]))]) X in_Li t_Li t_Li_ok n_Li hP hD hS 0 rfl rfl 0 (by decide) k_218 (Or.inr ⟨rfl, rfl, rfl⟩) (t_Li_ok 0 (by decide)) rfl rfl (Nat.le_of_ble_eq_true rfl) d_Li_init_9 rfl (fun H locs hP hD hS => ?_)
  refine lv_aload_n hx hb d_Li_init_12 rfl (lv_at hl 0 rfl) ?_
  refine lv_bipush (v := 100) hx hb d_Li_init_13 (by decide) ?_
  refine gk_newa (atype := .int) (N' := 100) (a0 := (100, .inl (fun _ => 0))) X k_148 (ty := .int) rfl 0 rfl hP hD hS (fun _ => rfl) (by decide) (by decide) (by decide) (Nat.le_of_ble_eq_true rfl) (Nat.le_of_ble_eq_true rfl) d_Li_init_15 (fun q2 H hP hD hS => ?_)
  have hP := hP.sub (ws' := [(h0, .inr (3, [.ref q1, .null, .null, .null, .null, .null, .null, .int 0]))]) [0] rfl
  have hD := hD.sub (ws' := [(h0, .inr (3, [.ref q1, .null, .null, .null, .null, .null, .null, .int 0]))]) [0] (by decide) rfl
  refine W.widen (k := 2) (n := 200) (by omega) (by omega) ?_
  refine gk_put (b := h0) (ci := 3) (v := .ref q2) (ty := t_Li 1) (ws' := [(h0, .inr (3, [.ref q1, .ref q2, .null, .null, .null, .null, .null, .int 0]))]) X in_Li t_Li t_Li_ok n_Li hP hD hS 0 rfl rfl 1 (by decide) k_219 (Or.inr ⟨rfl, rfl, rfl⟩) (t_Li_ok 1 (by decide)) rfl rfl (Nat.le_of_ble_eq_true rfl) d_Li_init_17 rfl (fun H locs hP hD hS => ?_)
  refine lv_aload_n hx hb d_Li_init_20 rfl (lv_at hl 0 rfl) ?_
  refine lv_bipush (v := 100) hx hb d_Li_init_21 (by decide) ?_
  refine gk_newa (atype := .int) (N' := 100) (a0 := (100, .inl (fun _ => 0))) X k_148 (ty := .int) rfl 0 rfl hP hD hS (fun _ => rfl) (by decide) (by decide) (by decide) (Nat.le_of_ble_eq_true rfl) (Nat.le_of_ble_eq_true rfl) d_Li_init_23 (fun q3 H hP hD hS => ?_)
  have hP := hP.sub (ws' := [(h0, .inr (3, [.ref q1, .ref q2, .null, .null, .null, .null, .null, .int 0]))]) [0] rfl
  have hD := hD.sub (ws' := [(h0, .inr (3, [.ref q1, .ref q2, .null, .null, .null, .null, .null, .int 0]))]) [0] (by decide) rfl
  refine W.widen (k := 3) (n := 300) (by omega) (by omega) ?_
  refine gk_put (b := h0) (ci := 3) (v := .ref q3) (ty := t_Li 2) (ws' := [(h0, .inr (3, [.ref q1, .ref q2, .ref q3, .null, .null, .null, .null, .int 0]))]) X in_Li t_Li t_Li_ok n_Li hP hD hS 0 rfl rfl 2 (by decide) k_220 (Or.inr ⟨rfl, rfl, rfl⟩) (t_Li_ok 2 (by decide)) rfl rfl (Nat.le_of_ble_eq_true rfl) d_Li_init_25 rfl (fun H locs hP hD hS => ?_)
  refine lv_aload_n hx hb d_Li_init_28 rfl (lv_at hl 0 rfl) ?_
  refine lv_bipush (v := 100) hx hb d_Li_init_29 (by decide) ?_
  refine gk_newa (atype := .int) (N' := 100) (a0 := (100, .inl (fun _ => 0))) X k_148 (ty := .int) rfl 0 rfl hP hD hS (fun _ => rfl) (by decide) (by decide) (by decide) (Nat.le_of_ble_eq_true rfl) (Nat.le_of_ble_eq_true rfl) d_Li_init_31 (fun q4 H hP hD hS => ?_)
  have hP := hP.sub (ws' := [(h0, .inr (3, [.ref q1, .ref q2, .ref q3, .null, .null, .null, .null, .int 0]))]) [0] rfl
  have hD := hD.sub (ws' := [(h0, .inr (3, [.ref q1, .ref q2, .ref q3, .null, .null, .null, .null, .int 0]))]) [0] (by decide) rfl
  refine W.widen (k := 4) (n := 400) (by omega) (by omega) ?_
  refine gk_put (b := h0) (ci := 3) (v := .ref q4) (ty := t_Li 3) (ws' := [(h0, .inr (3, [.ref q1, .ref q2, .ref q3, .ref q4, .null, .null, .null, .int 0]))]) X in_Li t_Li t_Li_ok n_Li hP hD hS 0 rfl rfl 3 (by decide) k_221 (Or.inr ⟨rfl, rfl, rfl⟩) (t_Li_ok 3 (by decide)) rfl rfl (Nat.le_of_ble_eq_true rfl) d_Li_init_33 rfl (fun H locs hP hD hS => ?_)
  refine lv_aload_n hx hb d_Li_init_36 rfl (lv_at hl 0 rfl) ?_
  refine lv_bipush (v := 100) hx hb d_Li_init_37 (by decide) ?_
  refine gk_newa (atype := .int) (N' := 100) (a0 := (100, .inl (fun _ => 0))) X k_148 (ty := .int) rfl 0 rfl hP hD hS (fun _ => rfl) (by decide) (by decide) (by decide) (Nat.le_of_ble_eq_true rfl) (Nat.le_of_ble_eq_true rfl) d_Li_init_39 (fun q5 H hP hD hS => ?_)
  have hP := hP.sub (ws' := [(h0, .inr (3, [.ref q1, .ref q2, .ref q3, .ref q4, .null, .null, .null, .int 0]))]) [0] rfl
  have hD := hD.sub (ws' := [(h0, .inr (3, [.ref q1, .ref q2, .ref q3, .ref q4, .null, .null, .null, .int 0]))]) [0] (by decide) rfl
  refine W.widen (k := 5) (n := 500) (by omega) (by omega) ?_
  refine gk_put (b := h0) (ci := 3) (v := .ref q5) (ty := t_Li 4) (ws' := [(h0, .inr (3, [.ref q1, .ref q2, .ref q3, .ref q4, .ref q5, .null, .null, .int 0]))]) X in_Li t_Li t_Li_ok n_Li hP hD hS 0 rfl rfl 4 (by decide) k_222 (Or.inr ⟨rfl, rfl, rfl⟩) (t_Li_ok 4 (by decide)) rfl rfl (Nat.le_of_ble_eq_true rfl) d_Li_init_41 rfl (fun H locs hP hD hS => ?_)
  refine lv_aload_n hx hb d_Li_init_44 rfl (lv_at hl 0 rfl) ?_
  refine lv_bipush (v := 100) hx hb d_Li_init_45 (by decide) ?_
  refine gk_newa (atype := .int) (N' := 100) (a0 := (100, .inl (fun _ => 0))) X k_148 (ty := .int) rfl 0 rfl hP hD hS (fun _ => rfl) (by decide) (by decide) (by decide) (Nat.le_of_ble_eq_true rfl) (Nat.le_of_ble_eq_true rfl) d_Li_init_47 (fun q6 H hP hD hS => ?_)
  have hP := hP.sub (ws' := [(h0, .inr (3, [.ref q1, .ref q2, .ref q3, .ref q4, .ref q5, .null, .null, .int 0]))]) [0] rfl
  have hD := hD.sub (ws' := [(h0, .inr (3, [.ref q1, .ref q2, .ref q3, .ref q4, .ref q5, .null, .null, .int 0]))]) [0] (by decide) rfl
  refine W.widen (k := 6) (n := 600) (by omega) (by omega) ?_
  refine gk_put (b := h0) (ci := 3) (v := .ref q6) (ty := t_Li 5) (ws' := [(h0, .inr (3, [.ref q1, .ref q2, .ref q3, .ref q4, .ref q5, .ref q6, .null, .int 0]))]) X in_Li t_Li t_Li_ok n_Li hP hD hS 0 rfl rfl 5 (by decide) k_223 (Or.inr ⟨rfl, rfl, rfl⟩) (t_Li_ok 5 (by decide)) rfl rfl (Nat.le_of_ble_eq_true rfl) d_Li_init_49 rfl (fun H locs hP hD hS => ?_)
  refine lv_aload_n hx hb d_Li_init_52 rfl (lv_at hl 0 rfl) ?_
  refine gk_new (ci := 6) (fs := df_Sb) X in_Sb t_Sb t_Sb_ok k_187 k_188 k_98 hP hD hS rfl df_Sb_ok (Nat.le_of_ble_eq_true rfl) (Nat.le_of_ble_eq_true rfl) d_Li_init_53 (fun q7 H hP hD hS => ?_)
  have hP : va_P E.1 gk_cl [(h0, .inr (3, [.ref q1, .ref q2, .ref q3, .ref q4, .ref q5, .ref q6, .null, .int 0])), (q7, .inr (6, [.null, .int 0, .int 0, .int 0]))] H := hP
  have hD : va_D A [(h0, .inr (3, [.ref q1, .ref q2, .ref q3, .ref q4, .ref q5, .ref q6, .null, .int 0])), (q7, .inr (6, [.null, .int 0, .int 0, .int 0]))] := hD
  refine W.widen (k := 7) (n := 604) (by omega) (by omega) ?_
  refine lv_dup hx hb d_Li_init_56 rfl ?_
  refine gk_back (wr := [(h0, .inr (3, [.ref q1, .ref q2, .ref q3, .ref q4, .ref q5, .ref q6, .null, .int 0]))]) (gk_runI (As := []) (rest := [.ref q7, .ref h0]) X (c_Sb_init l E q7 H.size) ok_Sb_init (Or.inl k_189) k_190 rfl rfl hP hD hS [1] rfl rfl hl.1 rfl (Nat.le_of_ble_eq_true rfl) d_Li_init_57 ⟨(Nat.le_of_ble_eq_true rfl), (Nat.le_of_ble_eq_true rfl)⟩ ⟨(Nat.le_of_ble_eq_true rfl), (Nat.le_of_ble_eq_true rfl)⟩) hP hD hS X.2.2.2.2.2.2.2.1 [1] [0] rfl rfl rfl (by decide) (fun r w H locs hB hP hD hS => ?_)
  obtain ⟨q8, rfl, rfl⟩ := hB
  have hP : va_P E.1 gk_cl [(h0, .inr (3, [.ref q1, .ref q2, .ref q3, .ref q4, .ref q5, .ref q6, .null, .int 0])), (q7, .inr (6, [.ref q8, .int 0, .int 0, .int 0]))] H := hP
  have hD : va_D A [(h0, .inr (3, [.ref q1, .ref q2, .ref q3, .ref q4, .ref q5, .ref q6, .null, .int 0])), (q7, .inr (6, [.ref q8, .int 0, .int 0, .int 0]))] := hD
  refine W.widen (k := 8) (n := 620) (by omega) (by omega) ?_
  refine gk_put (b := h0) (ci := 3) (v := .ref q7) (ty := t_Li 6) (ws' := [(h0, .inr (3, [.ref q1, .ref q2, .ref q3, .ref q4, .ref q5, .ref q6, .ref q7, .int 0])), (q7, .inr (6, [.ref q8, .int 0, .int 0, .int 0]))]) X in_Li t_Li t_Li_ok n_Li hP hD hS 0 rfl rfl 6 (by decide) k_224 (Or.inr ⟨rfl, rfl, rfl⟩) (t_Li_ok 6 (by decide)) rfl rfl (Nat.le_of_ble_eq_true rfl) d_Li_init_60 rfl (fun H locs hP hD hS => ?_)
  have hP9 := hP.sub (ws' := [(h0, .inr (3, [.ref q1, .ref q2, .ref q3, .ref q4, .ref q5, .ref q6, .ref q7, .int 0]))]) [0] rfl
  have hD9 := hD.sub (ws' := [(h0, .inr (3, [.ref q1, .ref q2, .ref q3, .ref q4, .ref q5, .ref q6, .ref q7, .int 0]))]) [0] (by decide) rfl
  refine W.widen (k := 8) (n := 620) (Nat.le_of_ble_eq_true rfl) (Nat.le_of_ble_eq_true rfl) ?_
  exact W.vret hx hb hr (gk_q hP9 hD9 hS ⟨q1, q2, q3, q4, q5, q6, q7, rfl, rfl⟩) hS.2.2 d_Li_init_63

set_option maxHeartbeats 4000000 in
set_option maxRecDepth 100000 in
theorem c_Ex_init (l : Launch) (E : gk_E) (h0 : Nat) (sz : Nat) : gk_M l E y_Ex_init b_Ex_init 1 (none) 4 21 1160 [.ref h0] [(h0, .inr (2, [.null, .null, .null, .null, .null, .null, .null, .int 0, .int 0, .long 0, .int 0, .int 0]))] sz (fun r w => ∃ q1 : Nat, ∃ q9 : Nat, ∃ q13 : Nat, ∃ q17 : Nat, ∃ q18 : Nat, ∃ q19 : Nat, ∃ q20 : Nat, ∃ q2 : Nat, ∃ q3 : Nat, ∃ q4 : Nat, ∃ q5 : Nat, ∃ q6 : Nat, ∃ q7 : Nat, ∃ q8 : Nat, r = none ∧ w = [(h0, .inr (2, [.ref q1, .ref q9, .ref q13, .ref q17, .ref q18, .ref q19, .ref q20, .int 0, .int 0, .long 0, .int 0, .int 0])), (q1, .inr (3, [.ref q2, .ref q3, .ref q4, .ref q5, .ref q6, .ref q7, .ref q8, .int 0]))]) := by
  refine gk_met (by decide) (Nat.le_of_ble_eq_true rfl) ?_
  intro p e s m below meth c A ls X hl hP hD hS
  have hx := X.1
  have hb := X.2.1
  have hown := X.2.2.2.1
  have hts := X.2.2.2.2.1
  have hZ := X.2.2.2.2.2.2.1
  have hr := X.2.2.2.2.2.2.2.2.1
  have hlocks : meth.locks = false := X.2.2.2.2.2.2.2.2.2.1
  have hl : lv_has ls 1 [(0, .ref h0)] := hl
  refine lv_aload_n hx hb d_Ex_init_0 rfl (lv_at hl 0 rfl) ?_
  refine gk_oi X k_180 k_123 k_124 hl.1 d_Ex_init_1 (Nat.le_of_ble_eq_true rfl) (Nat.le_of_ble_eq_true rfl) ?_
  refine lv_aload_n hx hb d_Ex_init_4 rfl (lv_at hl 0 rfl) ?_
  refine gk_new (ci := 3) (fs := df_Li) X in_Li t_Li t_Li_ok k_181 k_182 k_96 hP hD hS rfl df_Li_ok (Nat.le_of_ble_eq_true rfl) (Nat.le_of_ble_eq_true rfl) d_Ex_init_5 (fun q1 H hP hD hS => ?_)
  have hP : va_P E.1 gk_cl [(h0, .inr (2, [.null, .null, .null, .null, .null, .null, .null, .int 0, .int 0, .long 0, .int 0, .int 0])), (q1, .inr (3, [.null, .null, .null, .null, .null, .null, .null, .int 0]))] H := hP
  have hD : va_D A [(h0, .inr (2, [.null, .null, .null, .null, .null, .null, .null, .int 0, .int 0, .long 0, .int 0, .int 0])), (q1, .inr (3, [.null, .null, .null, .null, .null, .null, .null, .int 0]))] := hD
  refine W.widen (k := 1) (n := 8) (by omega) (by omega) ?_
  refine lv_dup hx hb d_Ex_init_8 rfl ?_
  refine gk_back (wr := [(h0, .inr (2, [.null, .null, .null, .null, .null, .null, .null, .int 0, .int 0, .long 0, .int 0, .int 0]))]) (gk_runI (As := []) (rest := [.ref q1, .ref h0]) X (c_Li_init l E q1 H.size) ok_Li_init (Or.inr nk_2) k_184 rfl rfl hP hD hS [1] rfl rfl hl.1 rfl (Nat.le_of_ble_eq_true rfl) d_Ex_init_9 ⟨(Nat.le_of_ble_eq_true rfl), (Nat.le_of_ble_eq_true rfl)⟩ ⟨(Nat.le_of_ble_eq_true rfl), (Nat.le_of_ble_eq_true rfl)⟩) hP hD hS X.2.2.2.2.2.2.2.1 [1] [0] rfl rfl rfl (by decide) (fun r w H locs hB hP hD hS => ?_)
  obtain ⟨q2, q3, q4, q5, q6, q7, q8, rfl, rfl⟩ := hB
  have hP : va_P E.1 gk_cl [(h0, .inr (2, [.null, .null, .null, .null, .null, .null, .null, .int 0, .int 0, .long 0, .int 0, .int 0])), (q1, .inr (3, [.ref q2, .ref q3, .ref q4, .ref q5, .ref q6, .ref q7, .ref q8, .int 0]))] H := hP
  have hD : va_D A [(h0, .inr (2, [.null, .null, .null, .null, .null, .null, .null, .int 0, .int 0, .long 0, .int 0, .int 0])), (q1, .inr (3, [.ref q2, .ref q3, .ref q4, .ref q5, .ref q6, .ref q7, .ref q8, .int 0]))] := hD
  refine W.widen (k := 9) (n := 628) (by omega) (by omega) ?_
  refine gk_put (b := h0) (ci := 2) (v := .ref q1) (ty := t_Ex 0) (ws' := [(h0, .inr (2, [.ref q1, .null, .null, .null, .null, .null, .null, .int 0, .int 0, .long 0, .int 0, .int 0])), (q1, .inr (3, [.ref q2, .ref q3, .ref q4, .ref q5, .ref q6, .ref q7, .ref q8, .int 0]))]) X in_Ex t_Ex t_Ex_ok n_Ex hP hD hS 0 rfl rfl 0 (by decide) k_265 (Or.inr ⟨rfl, rfl, rfl⟩) (t_Ex_ok 0 (by decide)) rfl rfl (Nat.le_of_ble_eq_true rfl) d_Ex_init_12 rfl (fun H locs hP hD hS => ?_)
  refine lv_aload_n hx hb d_Ex_init_15 rfl (lv_at hl 0 rfl) ?_
  refine gk_new (ci := 4) (fs := df_Ro) X in_Ro t_Ro t_Ro_ok k_243 k_244 k_101 hP hD hS rfl df_Ro_ok (Nat.le_of_ble_eq_true rfl) (Nat.le_of_ble_eq_true rfl) d_Ex_init_16 (fun q9 H hP hD hS => ?_)
  have hP : va_P E.1 gk_cl [(h0, .inr (2, [.ref q1, .null, .null, .null, .null, .null, .null, .int 0, .int 0, .long 0, .int 0, .int 0])), (q1, .inr (3, [.ref q2, .ref q3, .ref q4, .ref q5, .ref q6, .ref q7, .ref q8, .int 0])), (q9, .inr (4, [.null, .null, .null, .int 0]))] H := hP
  have hD : va_D A [(h0, .inr (2, [.ref q1, .null, .null, .null, .null, .null, .null, .int 0, .int 0, .long 0, .int 0, .int 0])), (q1, .inr (3, [.ref q2, .ref q3, .ref q4, .ref q5, .ref q6, .ref q7, .ref q8, .int 0])), (q9, .inr (4, [.null, .null, .null, .int 0]))] := hD
  refine W.widen (k := 10) (n := 632) (by omega) (by omega) ?_
  refine lv_dup hx hb d_Ex_init_19 rfl ?_
  refine gk_back (wr := [(h0, .inr (2, [.ref q1, .null, .null, .null, .null, .null, .null, .int 0, .int 0, .long 0, .int 0, .int 0])), (q1, .inr (3, [.ref q2, .ref q3, .ref q4, .ref q5, .ref q6, .ref q7, .ref q8, .int 0]))]) (gk_runI (As := []) (rest := [.ref q9, .ref h0]) X (c_Ro_init l E q9 H.size) ok_Ro_init (Or.inr nk_3) k_246 rfl rfl hP hD hS [2] rfl rfl hl.1 rfl (Nat.le_of_ble_eq_true rfl) d_Ex_init_20 ⟨(Nat.le_of_ble_eq_true rfl), (Nat.le_of_ble_eq_true rfl)⟩ ⟨(Nat.le_of_ble_eq_true rfl), (Nat.le_of_ble_eq_true rfl)⟩) hP hD hS X.2.2.2.2.2.2.2.1 [2] [0, 1] rfl rfl rfl (by decide) (fun r w H locs hB hP hD hS => ?_)
  obtain ⟨q10, q11, q12, rfl, rfl⟩ := hB
  have hP : va_P E.1 gk_cl [(h0, .inr (2, [.ref q1, .null, .null, .null, .null, .null, .null, .int 0, .int 0, .long 0, .int 0, .int 0])), (q1, .inr (3, [.ref q2, .ref q3, .ref q4, .ref q5, .ref q6, .ref q7, .ref q8, .int 0])), (q9, .inr (4, [.ref q10, .ref q11, .ref q12, .int 0]))] H := hP
  have hD : va_D A [(h0, .inr (2, [.ref q1, .null, .null, .null, .null, .null, .null, .int 0, .int 0, .long 0, .int 0, .int 0])), (q1, .inr (3, [.ref q2, .ref q3, .ref q4, .ref q5, .ref q6, .ref q7, .ref q8, .int 0])), (q9, .inr (4, [.ref q10, .ref q11, .ref q12, .int 0]))] := hD
  refine W.widen (k := 13) (n := 888) (by omega) (by omega) ?_
  refine gk_put (b := h0) (ci := 2) (v := .ref q9) (ty := t_Ex 1) (ws' := [(h0, .inr (2, [.ref q1, .ref q9, .null, .null, .null, .null, .null, .int 0, .int 0, .long 0, .int 0, .int 0])), (q1, .inr (3, [.ref q2, .ref q3, .ref q4, .ref q5, .ref q6, .ref q7, .ref q8, .int 0])), (q9, .inr (4, [.ref q10, .ref q11, .ref q12, .int 0]))]) X in_Ex t_Ex t_Ex_ok n_Ex hP hD hS 0 rfl rfl 1 (by decide) k_266 (Or.inr ⟨rfl, rfl, rfl⟩) (t_Ex_ok 1 (by decide)) rfl rfl (Nat.le_of_ble_eq_true rfl) d_Ex_init_23 rfl (fun H locs hP hD hS => ?_)
  refine lv_aload_n hx hb d_Ex_init_26 rfl (lv_at hl 0 rfl) ?_
  refine gk_new (ci := 4) (fs := df_Ro) X in_Ro t_Ro t_Ro_ok k_243 k_244 k_101 hP hD hS rfl df_Ro_ok (Nat.le_of_ble_eq_true rfl) (Nat.le_of_ble_eq_true rfl) d_Ex_init_27 (fun q13 H hP hD hS => ?_)
  have hP : va_P E.1 gk_cl [(h0, .inr (2, [.ref q1, .ref q9, .null, .null, .null, .null, .null, .int 0, .int 0, .long 0, .int 0, .int 0])), (q1, .inr (3, [.ref q2, .ref q3, .ref q4, .ref q5, .ref q6, .ref q7, .ref q8, .int 0])), (q9, .inr (4, [.ref q10, .ref q11, .ref q12, .int 0])), (q13, .inr (4, [.null, .null, .null, .int 0]))] H := hP
  have hD : va_D A [(h0, .inr (2, [.ref q1, .ref q9, .null, .null, .null, .null, .null, .int 0, .int 0, .long 0, .int 0, .int 0])), (q1, .inr (3, [.ref q2, .ref q3, .ref q4, .ref q5, .ref q6, .ref q7, .ref q8, .int 0])), (q9, .inr (4, [.ref q10, .ref q11, .ref q12, .int 0])), (q13, .inr (4, [.null, .null, .null, .int 0]))] := hD
  refine W.widen (k := 14) (n := 892) (by omega) (by omega) ?_
  refine lv_dup hx hb d_Ex_init_30 rfl ?_
  refine gk_back (wr := [(h0, .inr (2, [.ref q1, .ref q9, .null, .null, .null, .null, .null, .int 0, .int 0, .long 0, .int 0, .int 0])), (q1, .inr (3, [.ref q2, .ref q3, .ref q4, .ref q5, .ref q6, .ref q7, .ref q8, .int 0])), (q9, .inr (4, [.ref q10, .ref q11, .ref q12, .int 0]))]) (gk_runI (As := []) (rest := [.ref q13, .ref h0]) X (c_Ro_init l E q13 H.size) ok_Ro_init (Or.inr nk_3) k_246 rfl rfl hP hD hS [3] rfl rfl hl.1 rfl (Nat.le_of_ble_eq_true rfl) d_Ex_init_31 ⟨(Nat.le_of_ble_eq_true rfl), (Nat.le_of_ble_eq_true rfl)⟩ ⟨(Nat.le_of_ble_eq_true rfl), (Nat.le_of_ble_eq_true rfl)⟩) hP hD hS X.2.2.2.2.2.2.2.1 [3] [0, 1, 2] rfl rfl rfl (by decide) (fun r w H locs hB hP hD hS => ?_)
  obtain ⟨q14, q15, q16, rfl, rfl⟩ := hB
  have hP : va_P E.1 gk_cl [(h0, .inr (2, [.ref q1, .ref q9, .null, .null, .null, .null, .null, .int 0, .int 0, .long 0, .int 0, .int 0])), (q1, .inr (3, [.ref q2, .ref q3, .ref q4, .ref q5, .ref q6, .ref q7, .ref q8, .int 0])), (q9, .inr (4, [.ref q10, .ref q11, .ref q12, .int 0])), (q13, .inr (4, [.ref q14, .ref q15, .ref q16, .int 0]))] H := hP
  have hD : va_D A [(h0, .inr (2, [.ref q1, .ref q9, .null, .null, .null, .null, .null, .int 0, .int 0, .long 0, .int 0, .int 0])), (q1, .inr (3, [.ref q2, .ref q3, .ref q4, .ref q5, .ref q6, .ref q7, .ref q8, .int 0])), (q9, .inr (4, [.ref q10, .ref q11, .ref q12, .int 0])), (q13, .inr (4, [.ref q14, .ref q15, .ref q16, .int 0]))] := hD
  refine W.widen (k := 17) (n := 1148) (by omega) (by omega) ?_
  refine gk_put (b := h0) (ci := 2) (v := .ref q13) (ty := t_Ex 2) (ws' := [(h0, .inr (2, [.ref q1, .ref q9, .ref q13, .null, .null, .null, .null, .int 0, .int 0, .long 0, .int 0, .int 0])), (q1, .inr (3, [.ref q2, .ref q3, .ref q4, .ref q5, .ref q6, .ref q7, .ref q8, .int 0])), (q9, .inr (4, [.ref q10, .ref q11, .ref q12, .int 0])), (q13, .inr (4, [.ref q14, .ref q15, .ref q16, .int 0]))]) X in_Ex t_Ex t_Ex_ok n_Ex hP hD hS 0 rfl rfl 2 (by decide) k_267 (Or.inr ⟨rfl, rfl, rfl⟩) (t_Ex_ok 2 (by decide)) rfl rfl (Nat.le_of_ble_eq_true rfl) d_Ex_init_34 rfl (fun H locs hP hD hS => ?_)
  refine lv_aload_n hx hb d_Ex_init_37 rfl (lv_at hl 0 rfl) ?_
  refine gk_new (ci := 5) (fs := df_Al) X in_Al t_Al t_Al_ok k_263 k_150 k_94 hP hD hS rfl df_Al_ok (Nat.le_of_ble_eq_true rfl) (Nat.le_of_ble_eq_true rfl) d_Ex_init_38 (fun q17 H hP hD hS => ?_)
  have hP : va_P E.1 gk_cl [(h0, .inr (2, [.ref q1, .ref q9, .ref q13, .null, .null, .null, .null, .int 0, .int 0, .long 0, .int 0, .int 0])), (q1, .inr (3, [.ref q2, .ref q3, .ref q4, .ref q5, .ref q6, .ref q7, .ref q8, .int 0])), (q9, .inr (4, [.ref q10, .ref q11, .ref q12, .int 0])), (q13, .inr (4, [.ref q14, .ref q15, .ref q16, .int 0])), (q17, .inr (5, [.int 0, .null, .int 0]))] H := hP
  have hD : va_D A [(h0, .inr (2, [.ref q1, .ref q9, .ref q13, .null, .null, .null, .null, .int 0, .int 0, .long 0, .int 0, .int 0])), (q1, .inr (3, [.ref q2, .ref q3, .ref q4, .ref q5, .ref q6, .ref q7, .ref q8, .int 0])), (q9, .inr (4, [.ref q10, .ref q11, .ref q12, .int 0])), (q13, .inr (4, [.ref q14, .ref q15, .ref q16, .int 0])), (q17, .inr (5, [.int 0, .null, .int 0]))] := hD
  refine W.widen (k := 18) (n := 1151) (by omega) (by omega) ?_
  refine lv_dup hx hb d_Ex_init_41 rfl ?_
  refine gk_back (wr := [(h0, .inr (2, [.ref q1, .ref q9, .ref q13, .null, .null, .null, .null, .int 0, .int 0, .long 0, .int 0, .int 0])), (q1, .inr (3, [.ref q2, .ref q3, .ref q4, .ref q5, .ref q6, .ref q7, .ref q8, .int 0])), (q9, .inr (4, [.ref q10, .ref q11, .ref q12, .int 0])), (q13, .inr (4, [.ref q14, .ref q15, .ref q16, .int 0]))]) (gk_runI (As := []) (rest := [.ref q17, .ref h0]) X (c_Al_init l E q17 H.size) ok_Al_init (Or.inl k_264) k_152 rfl rfl hP hD hS [4] rfl rfl hl.1 rfl (Nat.le_of_ble_eq_true rfl) d_Ex_init_42 ⟨(Nat.le_of_ble_eq_true rfl), (Nat.le_of_ble_eq_true rfl)⟩ ⟨(Nat.le_of_ble_eq_true rfl), (Nat.le_of_ble_eq_true rfl)⟩) hP hD hS X.2.2.2.2.2.2.2.1 [4] [0, 1, 2, 3] rfl rfl rfl (by decide) (fun r w H locs hB hP hD hS => ?_)
  obtain ⟨rfl, rfl⟩ := hB
  have hP : va_P E.1 gk_cl [(h0, .inr (2, [.ref q1, .ref q9, .ref q13, .null, .null, .null, .null, .int 0, .int 0, .long 0, .int 0, .int 0])), (q1, .inr (3, [.ref q2, .ref q3, .ref q4, .ref q5, .ref q6, .ref q7, .ref q8, .int 0])), (q9, .inr (4, [.ref q10, .ref q11, .ref q12, .int 0])), (q13, .inr (4, [.ref q14, .ref q15, .ref q16, .int 0])), (q17, .inr (5, [.int 0, .ref E.2.2, .int 0]))] H := hP
  have hD : va_D A [(h0, .inr (2, [.ref q1, .ref q9, .ref q13, .null, .null, .null, .null, .int 0, .int 0, .long 0, .int 0, .int 0])), (q1, .inr (3, [.ref q2, .ref q3, .ref q4, .ref q5, .ref q6, .ref q7, .ref q8, .int 0])), (q9, .inr (4, [.ref q10, .ref q11, .ref q12, .int 0])), (q13, .inr (4, [.ref q14, .ref q15, .ref q16, .int 0])), (q17, .inr (5, [.int 0, .ref E.2.2, .int 0]))] := hD
  refine W.widen (k := 18) (n := 1151) (by omega) (by omega) ?_
  refine gk_put (b := h0) (ci := 2) (v := .ref q17) (ty := t_Ex 3) (ws' := [(h0, .inr (2, [.ref q1, .ref q9, .ref q13, .ref q17, .null, .null, .null, .int 0, .int 0, .long 0, .int 0, .int 0])), (q1, .inr (3, [.ref q2, .ref q3, .ref q4, .ref q5, .ref q6, .ref q7, .ref q8, .int 0])), (q9, .inr (4, [.ref q10, .ref q11, .ref q12, .int 0])), (q13, .inr (4, [.ref q14, .ref q15, .ref q16, .int 0])), (q17, .inr (5, [.int 0, .ref E.2.2, .int 0]))]) X in_Ex t_Ex t_Ex_ok n_Ex hP hD hS 0 rfl rfl 3 (by decide) k_268 (Or.inr ⟨rfl, rfl, rfl⟩) (t_Ex_ok 3 (by decide)) rfl rfl (Nat.le_of_ble_eq_true rfl) d_Ex_init_45 rfl (fun H locs hP hD hS => ?_)
  refine lv_aload_n hx hb d_Ex_init_48 rfl (lv_at hl 0 rfl) ?_
  refine gk_new (ci := 5) (fs := df_Al) X in_Al t_Al t_Al_ok k_263 k_150 k_94 hP hD hS rfl df_Al_ok (Nat.le_of_ble_eq_true rfl) (Nat.le_of_ble_eq_true rfl) d_Ex_init_49 (fun q18 H hP hD hS => ?_)
  have hP : va_P E.1 gk_cl [(h0, .inr (2, [.ref q1, .ref q9, .ref q13, .ref q17, .null, .null, .null, .int 0, .int 0, .long 0, .int 0, .int 0])), (q1, .inr (3, [.ref q2, .ref q3, .ref q4, .ref q5, .ref q6, .ref q7, .ref q8, .int 0])), (q9, .inr (4, [.ref q10, .ref q11, .ref q12, .int 0])), (q13, .inr (4, [.ref q14, .ref q15, .ref q16, .int 0])), (q17, .inr (5, [.int 0, .ref E.2.2, .int 0])), (q18, .inr (5, [.int 0, .null, .int 0]))] H := hP
  have hD : va_D A [(h0, .inr (2, [.ref q1, .ref q9, .ref q13, .ref q17, .null, .null, .null, .int 0, .int 0, .long 0, .int 0, .int 0])), (q1, .inr (3, [.ref q2, .ref q3, .ref q4, .ref q5, .ref q6, .ref q7, .ref q8, .int 0])), (q9, .inr (4, [.ref q10, .ref q11, .ref q12, .int 0])), (q13, .inr (4, [.ref q14, .ref q15, .ref q16, .int 0])), (q17, .inr (5, [.int 0, .ref E.2.2, .int 0])), (q18, .inr (5, [.int 0, .null, .int 0]))] := hD
  refine W.widen (k := 19) (n := 1154) (by omega) (by omega) ?_
  refine lv_dup hx hb d_Ex_init_52 rfl ?_
  refine gk_back (wr := [(h0, .inr (2, [.ref q1, .ref q9, .ref q13, .ref q17, .null, .null, .null, .int 0, .int 0, .long 0, .int 0, .int 0])), (q1, .inr (3, [.ref q2, .ref q3, .ref q4, .ref q5, .ref q6, .ref q7, .ref q8, .int 0])), (q9, .inr (4, [.ref q10, .ref q11, .ref q12, .int 0])), (q13, .inr (4, [.ref q14, .ref q15, .ref q16, .int 0])), (q17, .inr (5, [.int 0, .ref E.2.2, .int 0]))]) (gk_runI (As := []) (rest := [.ref q18, .ref h0]) X (c_Al_init l E q18 H.size) ok_Al_init (Or.inl k_264) k_152 rfl rfl hP hD hS [5] rfl rfl hl.1 rfl (Nat.le_of_ble_eq_true rfl) d_Ex_init_53 ⟨(Nat.le_of_ble_eq_true rfl), (Nat.le_of_ble_eq_true rfl)⟩ ⟨(Nat.le_of_ble_eq_true rfl), (Nat.le_of_ble_eq_true rfl)⟩) hP hD hS X.2.2.2.2.2.2.2.1 [5] [0, 1, 2, 3, 4] rfl rfl rfl (by decide) (fun r w H locs hB hP hD hS => ?_)
  obtain ⟨rfl, rfl⟩ := hB
  have hP : va_P E.1 gk_cl [(h0, .inr (2, [.ref q1, .ref q9, .ref q13, .ref q17, .null, .null, .null, .int 0, .int 0, .long 0, .int 0, .int 0])), (q1, .inr (3, [.ref q2, .ref q3, .ref q4, .ref q5, .ref q6, .ref q7, .ref q8, .int 0])), (q9, .inr (4, [.ref q10, .ref q11, .ref q12, .int 0])), (q13, .inr (4, [.ref q14, .ref q15, .ref q16, .int 0])), (q17, .inr (5, [.int 0, .ref E.2.2, .int 0])), (q18, .inr (5, [.int 0, .ref E.2.2, .int 0]))] H := hP
  have hD : va_D A [(h0, .inr (2, [.ref q1, .ref q9, .ref q13, .ref q17, .null, .null, .null, .int 0, .int 0, .long 0, .int 0, .int 0])), (q1, .inr (3, [.ref q2, .ref q3, .ref q4, .ref q5, .ref q6, .ref q7, .ref q8, .int 0])), (q9, .inr (4, [.ref q10, .ref q11, .ref q12, .int 0])), (q13, .inr (4, [.ref q14, .ref q15, .ref q16, .int 0])), (q17, .inr (5, [.int 0, .ref E.2.2, .int 0])), (q18, .inr (5, [.int 0, .ref E.2.2, .int 0]))] := hD
  refine W.widen (k := 19) (n := 1154) (by omega) (by omega) ?_
  refine gk_put (b := h0) (ci := 2) (v := .ref q18) (ty := t_Ex 4) (ws' := [(h0, .inr (2, [.ref q1, .ref q9, .ref q13, .ref q17, .ref q18, .null, .null, .int 0, .int 0, .long 0, .int 0, .int 0])), (q1, .inr (3, [.ref q2, .ref q3, .ref q4, .ref q5, .ref q6, .ref q7, .ref q8, .int 0])), (q9, .inr (4, [.ref q10, .ref q11, .ref q12, .int 0])), (q13, .inr (4, [.ref q14, .ref q15, .ref q16, .int 0])), (q17, .inr (5, [.int 0, .ref E.2.2, .int 0])), (q18, .inr (5, [.int 0, .ref E.2.2, .int 0]))]) X in_Ex t_Ex t_Ex_ok n_Ex hP hD hS 0 rfl rfl 4 (by decide) k_269 (Or.inr ⟨rfl, rfl, rfl⟩) (t_Ex_ok 4 (by decide)) rfl rfl (Nat.le_of_ble_eq_true rfl) d_Ex_init_56 rfl (fun H locs hP hD hS => ?_)
  refine lv_aload_n hx hb d_Ex_init_59 rfl (lv_at hl 0 rfl) ?_
  refine gk_new (ci := 5) (fs := df_Al) X in_Al t_Al t_Al_ok k_263 k_150 k_94 hP hD hS rfl df_Al_ok (Nat.le_of_ble_eq_true rfl) (Nat.le_of_ble_eq_true rfl) d_Ex_init_60 (fun q19 H hP hD hS => ?_)
  have hP : va_P E.1 gk_cl [(h0, .inr (2, [.ref q1, .ref q9, .ref q13, .ref q17, .ref q18, .null, .null, .int 0, .int 0, .long 0, .int 0, .int 0])), (q1, .inr (3, [.ref q2, .ref q3, .ref q4, .ref q5, .ref q6, .ref q7, .ref q8, .int 0])), (q9, .inr (4, [.ref q10, .ref q11, .ref q12, .int 0])), (q13, .inr (4, [.ref q14, .ref q15, .ref q16, .int 0])), (q17, .inr (5, [.int 0, .ref E.2.2, .int 0])), (q18, .inr (5, [.int 0, .ref E.2.2, .int 0])), (q19, .inr (5, [.int 0, .null, .int 0]))] H := hP
  have hD : va_D A [(h0, .inr (2, [.ref q1, .ref q9, .ref q13, .ref q17, .ref q18, .null, .null, .int 0, .int 0, .long 0, .int 0, .int 0])), (q1, .inr (3, [.ref q2, .ref q3, .ref q4, .ref q5, .ref q6, .ref q7, .ref q8, .int 0])), (q9, .inr (4, [.ref q10, .ref q11, .ref q12, .int 0])), (q13, .inr (4, [.ref q14, .ref q15, .ref q16, .int 0])), (q17, .inr (5, [.int 0, .ref E.2.2, .int 0])), (q18, .inr (5, [.int 0, .ref E.2.2, .int 0])), (q19, .inr (5, [.int 0, .null, .int 0]))] := hD
  refine W.widen (k := 20) (n := 1157) (by omega) (by omega) ?_
  refine lv_dup hx hb d_Ex_init_63 rfl ?_
  refine gk_back (wr := [(h0, .inr (2, [.ref q1, .ref q9, .ref q13, .ref q17, .ref q18, .null, .null, .int 0, .int 0, .long 0, .int 0, .int 0])), (q1, .inr (3, [.ref q2, .ref q3, .ref q4, .ref q5, .ref q6, .ref q7, .ref q8, .int 0])), (q9, .inr (4, [.ref q10, .ref q11, .ref q12, .int 0])), (q13, .inr (4, [.ref q14, .ref q15, .ref q16, .int 0])), (q17, .inr (5, [.int 0, .ref E.2.2, .int 0])), (q18, .inr (5, [.int 0, .ref E.2.2, .int 0]))]) (gk_runI (As := []) (rest := [.ref q19, .ref h0]) X (c_Al_init l E q19 H.size) ok_Al_init (Or.inl k_264) k_152 rfl rfl hP hD hS [6] rfl rfl hl.1 rfl (Nat.le_of_ble_eq_true rfl) d_Ex_init_64 ⟨(Nat.le_of_ble_eq_true rfl), (Nat.le_of_ble_eq_true rfl)⟩ ⟨(Nat.le_of_ble_eq_true rfl), (Nat.le_of_ble_eq_true rfl)⟩) hP hD hS X.2.2.2.2.2.2.2.1 [6] [0, 1, 2, 3, 4, 5] rfl rfl rfl (by decide) (fun r w H locs hB hP hD hS => ?_)
  obtain ⟨rfl, rfl⟩ := hB
  have hP : va_P E.1 gk_cl [(h0, .inr (2, [.ref q1, .ref q9, .ref q13, .ref q17, .ref q18, .null, .null, .int 0, .int 0, .long 0, .int 0, .int 0])), (q1, .inr (3, [.ref q2, .ref q3, .ref q4, .ref q5, .ref q6, .ref q7, .ref q8, .int 0])), (q9, .inr (4, [.ref q10, .ref q11, .ref q12, .int 0])), (q13, .inr (4, [.ref q14, .ref q15, .ref q16, .int 0])), (q17, .inr (5, [.int 0, .ref E.2.2, .int 0])), (q18, .inr (5, [.int 0, .ref E.2.2, .int 0])), (q19, .inr (5, [.int 0, .ref E.2.2, .int 0]))] H := hP
  have hD : va_D A [(h0, .inr (2, [.ref q1, .ref q9, .ref q13, .ref q17, .ref q18, .null, .null, .int 0, .int 0, .long 0, .int 0, .int 0])), (q1, .inr (3, [.ref q2, .ref q3, .ref q4, .ref q5, .ref q6, .ref q7, .ref q8, .int 0])), (q9, .inr (4, [.ref q10, .ref q11, .ref q12, .int 0])), (q13, .inr (4, [.ref q14, .ref q15, .ref q16, .int 0])), (q17, .inr (5, [.int 0, .ref E.2.2, .int 0])), (q18, .inr (5, [.int 0, .ref E.2.2, .int 0])), (q19, .inr (5, [.int 0, .ref E.2.2, .int 0]))] := hD
  refine W.widen (k := 20) (n := 1157) (by omega) (by omega) ?_
  refine gk_put (b := h0) (ci := 2) (v := .ref q19) (ty := t_Ex 5) (ws' := [(h0, .inr (2, [.ref q1, .ref q9, .ref q13, .ref q17, .ref q18, .ref q19, .null, .int 0, .int 0, .long 0, .int 0, .int 0])), (q1, .inr (3, [.ref q2, .ref q3, .ref q4, .ref q5, .ref q6, .ref q7, .ref q8, .int 0])), (q9, .inr (4, [.ref q10, .ref q11, .ref q12, .int 0])), (q13, .inr (4, [.ref q14, .ref q15, .ref q16, .int 0])), (q17, .inr (5, [.int 0, .ref E.2.2, .int 0])), (q18, .inr (5, [.int 0, .ref E.2.2, .int 0])), (q19, .inr (5, [.int 0, .ref E.2.2, .int 0]))]) X in_Ex t_Ex t_Ex_ok n_Ex hP hD hS 0 rfl rfl 5 (by decide) k_270 (Or.inl rfl) (t_Ex_ok 5 (by decide)) rfl rfl (Nat.le_of_ble_eq_true rfl) d_Ex_init_67 rfl (fun H locs hP hD hS => ?_)
  refine lv_aload_n hx hb d_Ex_init_70 rfl (lv_at hl 0 rfl) ?_
  refine gk_new (ci := 5) (fs := df_Al) X in_Al t_Al t_Al_ok k_263 k_150 k_94 hP hD hS rfl df_Al_ok (Nat.le_of_ble_eq_true rfl) (Nat.le_of_ble_eq_true rfl) d_Ex_init_71 (fun q20 H hP hD hS => ?_)
  have hP : va_P E.1 gk_cl [(h0, .inr (2, [.ref q1, .ref q9, .ref q13, .ref q17, .ref q18, .ref q19, .null, .int 0, .int 0, .long 0, .int 0, .int 0])), (q1, .inr (3, [.ref q2, .ref q3, .ref q4, .ref q5, .ref q6, .ref q7, .ref q8, .int 0])), (q9, .inr (4, [.ref q10, .ref q11, .ref q12, .int 0])), (q13, .inr (4, [.ref q14, .ref q15, .ref q16, .int 0])), (q17, .inr (5, [.int 0, .ref E.2.2, .int 0])), (q18, .inr (5, [.int 0, .ref E.2.2, .int 0])), (q19, .inr (5, [.int 0, .ref E.2.2, .int 0])), (q20, .inr (5, [.int 0, .null, .int 0]))] H := hP
  have hD : va_D A [(h0, .inr (2, [.ref q1, .ref q9, .ref q13, .ref q17, .ref q18, .ref q19, .null, .int 0, .int 0, .long 0, .int 0, .int 0])), (q1, .inr (3, [.ref q2, .ref q3, .ref q4, .ref q5, .ref q6, .ref q7, .ref q8, .int 0])), (q9, .inr (4, [.ref q10, .ref q11, .ref q12, .int 0])), (q13, .inr (4, [.ref q14, .ref q15, .ref q16, .int 0])), (q17, .inr (5, [.int 0, .ref E.2.2, .int 0])), (q18, .inr (5, [.int 0, .ref E.2.2, .int 0])), (q19, .inr (5, [.int 0, .ref E.2.2, .int 0])), (q20, .inr (5, [.int 0, .null, .int 0]))] := hD
  refine W.widen (k := 21) (n := 1160) (by omega) (by omega) ?_
  refine lv_dup hx hb d_Ex_init_74 rfl ?_
  refine gk_back (wr := [(h0, .inr (2, [.ref q1, .ref q9, .ref q13, .ref q17, .ref q18, .ref q19, .null, .int 0, .int 0, .long 0, .int 0, .int 0])), (q1, .inr (3, [.ref q2, .ref q3, .ref q4, .ref q5, .ref q6, .ref q7, .ref q8, .int 0])), (q9, .inr (4, [.ref q10, .ref q11, .ref q12, .int 0])), (q13, .inr (4, [.ref q14, .ref q15, .ref q16, .int 0])), (q17, .inr (5, [.int 0, .ref E.2.2, .int 0])), (q18, .inr (5, [.int 0, .ref E.2.2, .int 0])), (q19, .inr (5, [.int 0, .ref E.2.2, .int 0]))]) (gk_runI (As := []) (rest := [.ref q20, .ref h0]) X (c_Al_init l E q20 H.size) ok_Al_init (Or.inl k_264) k_152 rfl rfl hP hD hS [7] rfl rfl hl.1 rfl (Nat.le_of_ble_eq_true rfl) d_Ex_init_75 ⟨(Nat.le_of_ble_eq_true rfl), (Nat.le_of_ble_eq_true rfl)⟩ ⟨(Nat.le_of_ble_eq_true rfl), (Nat.le_of_ble_eq_true rfl)⟩) hP hD hS X.2.2.2.2.2.2.2.1 [7] [0, 1, 2, 3, 4, 5, 6] rfl rfl rfl (by decide) (fun r w H locs hB hP hD hS => ?_)
  obtain ⟨rfl, rfl⟩ := hB
  have hP : va_P E.1 gk_cl [(h0, .inr (2, [.ref q1, .ref q9, .ref q13, .ref q17, .ref q18, .ref q19, .null, .int 0, .int 0, .long 0, .int 0, .int 0])), (q1, .inr (3, [.ref q2, .ref q3, .ref q4, .ref q5, .ref q6, .ref q7, .ref q8, .int 0])), (q9, .inr (4, [.ref q10, .ref q11, .ref q12, .int 0])), (q13, .inr (4, [.ref q14, .ref q15, .ref q16, .int 0])), (q17, .inr (5, [.int 0, .ref E.2.2, .int 0])), (q18, .inr (5, [.int 0, .ref E.2.2, .int 0])), (q19, .inr (5, [.int 0, .ref E.2.2, .int 0])), (q20, .inr (5, [.int 0, .ref E.2.2, .int 0]))] H := hP
  have hD : va_D A [(h0, .inr (2, [.ref q1, .ref q9, .ref q13, .ref q17, .ref q18, .ref q19, .null, .int 0, .int 0, .long 0, .int 0, .int 0])), (q1, .inr (3, [.ref q2, .ref q3, .ref q4, .ref q5, .ref q6, .ref q7, .ref q8, .int 0])), (q9, .inr (4, [.ref q10, .ref q11, .ref q12, .int 0])), (q13, .inr (4, [.ref q14, .ref q15, .ref q16, .int 0])), (q17, .inr (5, [.int 0, .ref E.2.2, .int 0])), (q18, .inr (5, [.int 0, .ref E.2.2, .int 0])), (q19, .inr (5, [.int 0, .ref E.2.2, .int 0])), (q20, .inr (5, [.int 0, .ref E.2.2, .int 0]))] := hD
  refine W.widen (k := 21) (n := 1160) (by omega) (by omega) ?_
  refine gk_put (b := h0) (ci := 2) (v := .ref q20) (ty := t_Ex 6) (ws' := [(h0, .inr (2, [.ref q1, .ref q9, .ref q13, .ref q17, .ref q18, .ref q19, .ref q20, .int 0, .int 0, .long 0, .int 0, .int 0])), (q1, .inr (3, [.ref q2, .ref q3, .ref q4, .ref q5, .ref q6, .ref q7, .ref q8, .int 0])), (q9, .inr (4, [.ref q10, .ref q11, .ref q12, .int 0])), (q13, .inr (4, [.ref q14, .ref q15, .ref q16, .int 0])), (q17, .inr (5, [.int 0, .ref E.2.2, .int 0])), (q18, .inr (5, [.int 0, .ref E.2.2, .int 0])), (q19, .inr (5, [.int 0, .ref E.2.2, .int 0])), (q20, .inr (5, [.int 0, .ref E.2.2, .int 0]))]) X in_Ex t_Ex t_Ex_ok n_Ex hP hD hS 0 rfl rfl 6 (by decide) k_271 (Or.inl rfl) (t_Ex_ok 6 (by decide)) rfl rfl (Nat.le_of_ble_eq_true rfl) d_Ex_init_78 rfl (fun H locs hP hD hS => ?_)
  have hP9 := hP.sub (ws' := [(h0, .inr (2, [.ref q1, .ref q9, .ref q13, .ref q17, .ref q18, .ref q19, .ref q20, .int 0, .int 0, .long 0, .int 0, .int 0])), (q1, .inr (3, [.ref q2, .ref q3, .ref q4, .ref q5, .ref q6, .ref q7, .ref q8, .int 0]))]) [0, 1] rfl
  have hD9 := hD.sub (ws' := [(h0, .inr (2, [.ref q1, .ref q9, .ref q13, .ref q17, .ref q18, .ref q19, .ref q20, .int 0, .int 0, .long 0, .int 0, .int 0])), (q1, .inr (3, [.ref q2, .ref q3, .ref q4, .ref q5, .ref q6, .ref q7, .ref q8, .int 0]))]) [0, 1] (by decide) rfl
  refine W.widen (k := 21) (n := 1160) (Nat.le_of_ble_eq_true rfl) (Nat.le_of_ble_eq_true rfl) ?_
  exact W.vret hx hb hr (gk_q hP9 hD9 hS ⟨q1, q9, q13, q17, q18, q19, q20, q2, q3, q4, q5, q6, q7, q8, rfl, rfl⟩) hS.2.2 d_Ex_init_81

set_option maxHeartbeats 4000000 in
set_option maxRecDepth 100000 in
theorem c_Jt_init (l : Launch) (E : gk_E) (h0 : Nat) (sz : Nat) : gk_M l E y_Jt_init b_Jt_init 1 (none) 5 29 4300 [.ref h0] [(h0, .inr (0, [.null, .null, .null, .null, .int 0, .null]))] sz (fun r w => ∃ q1 : Nat, ∃ q2 : Nat, ∃ q7 : Nat, ∃ q8 : Nat, ∃ q3 : Nat, ∃ q4 : Nat, ∃ q5 : Nat, ∃ q6 : Nat, ∃ q9 : Nat, ∃ q10 : Nat, ∃ q11 : Nat, ∃ q12 : Nat, ∃ q13 : Nat, ∃ q14 : Nat, ∃ q15 : Nat, ∃ q16 : Nat, ∃ q17 : Nat, ∃ q18 : Nat, ∃ q19 : Nat, ∃ q20 : Nat, ∃ q21 : Nat, ∃ q22 : Nat, r = none ∧ w = [(h0, .inr (0, [.ref q1, .ref q2, .ref q7, .ref q8, .int 0, .null])), (q1, .inl (E.2.1 1, 3000, .inl (fun _ => 0))), (q2, .inr (1, [.ref q3, .ref q4, .ref q5, .ref q6, .int 0])), (q7, .inr (5, [.int 0, .ref E.2.2, .int 0])), (q8, .inr (2, [.ref q9, .ref q10, .ref q11, .ref q12, .ref q13, .ref q14, .ref q15, .int 0, .int 0, .long 0, .int 0, .int 0])), (q9, .inr (3, [.ref q16, .ref q17, .ref q18, .ref q19, .ref q20, .ref q21, .ref q22, .int 0]))]) := by
  refine gk_met (by decide) (Nat.le_of_ble_eq_true rfl) ?_
  intro p e s m below meth c A ls X hl hP hD hS
  have hx := X.1
  have hb := X.2.1
  have hown := X.2.2.2.1
  have hts := X.2.2.2.2.1
  have hZ := X.2.2.2.2.2.2.1
  have hr := X.2.2.2.2.2.2.2.2.1
  have hlocks : meth.locks = false := X.2.2.2.2.2.2.2.2.2.1
  have hl : lv_has ls 1 [(0, .ref h0)] := hl
  refine lv_aload_n hx hb d_Jt_init_0 rfl (lv_at hl 0 rfl) ?_
  refine gk_oi X k_122 k_123 k_124 hl.1 d_Jt_init_1 (Nat.le_of_ble_eq_true rfl) (Nat.le_of_ble_eq_true rfl) ?_
  refine lv_aload_n hx hb d_Jt_init_4 rfl (lv_at hl 0 rfl) ?_
  refine lv_sipush (v := 3000) hx hb d_Jt_init_5 (by decide) ?_
  refine gk_newa (atype := .byte) (N' := 3000) (a0 := (3000, .inl (fun _ => 0))) X k_147 (ty := .byte) rfl 1 rfl hP hD hS (fun _ => rfl) (by decide) (by decide) (by decide) (Nat.le_of_ble_eq_true rfl) (Nat.le_of_ble_eq_true rfl) d_Jt_init_8 (fun q1 H hP hD hS => ?_)
  have hP : va_P E.1 gk_cl [(h0, .inr (0, [.null, .null, .null, .null, .int 0, .null])), (q1, .inl (E.2.1 1, 3000, .inl (fun _ => 0)))] H := hP
  have hD : va_D A [(h0, .inr (0, [.null, .null, .null, .null, .int 0, .null])), (q1, .inl (E.2.1 1, 3000, .inl (fun _ => 0)))] := hD
  refine W.widen (k := 1) (n := 3000) (by omega) (by omega) ?_
  refine gk_put (b := h0) (ci := 0) (v := .ref q1) (ty := t_Jt 0) (ws' := [(h0, .inr (0, [.ref q1, .null, .null, .null, .int 0, .null])), (q1, .inl (E.2.1 1, 3000, .inl (fun _ => 0)))]) X in_Jt t_Jt t_Jt_ok n_Jt hP hD hS 0 rfl rfl 0 (by decide) k_302 (Or.inr ⟨rfl, rfl, rfl⟩) (t_Jt_ok 0 (by decide)) rfl rfl (Nat.le_of_ble_eq_true rfl) d_Jt_init_10 rfl (fun H locs hP hD hS => ?_)
  refine lv_aload_n hx hb d_Jt_init_13 rfl (lv_at hl 0 rfl) ?_
  refine gk_new (ci := 1) (fs := df_Fa) X in_Fa t_Fa t_Fa_ok k_125 k_126 k_91 hP hD hS rfl df_Fa_ok (Nat.le_of_ble_eq_true rfl) (Nat.le_of_ble_eq_true rfl) d_Jt_init_14 (fun q2 H hP hD hS => ?_)
  have hP : va_P E.1 gk_cl [(h0, .inr (0, [.ref q1, .null, .null, .null, .int 0, .null])), (q1, .inl (E.2.1 1, 3000, .inl (fun _ => 0))), (q2, .inr (1, [.null, .null, .null, .null, .int 0]))] H := hP
  have hD : va_D A [(h0, .inr (0, [.ref q1, .null, .null, .null, .int 0, .null])), (q1, .inl (E.2.1 1, 3000, .inl (fun _ => 0))), (q2, .inr (1, [.null, .null, .null, .null, .int 0]))] := hD
  refine W.widen (k := 2) (n := 3005) (by omega) (by omega) ?_
  refine lv_dup hx hb d_Jt_init_17 rfl ?_
  refine gk_back (wr := [(h0, .inr (0, [.ref q1, .null, .null, .null, .int 0, .null])), (q1, .inl (E.2.1 1, 3000, .inl (fun _ => 0)))]) (gk_runI (As := []) (rest := [.ref q2, .ref h0]) X (c_Fa_init l E q2 H.size) ok_Fa_init (Or.inr nk_0) k_128 rfl rfl hP hD hS [2] rfl rfl hl.1 rfl (Nat.le_of_ble_eq_true rfl) d_Jt_init_18 ⟨(Nat.le_of_ble_eq_true rfl), (Nat.le_of_ble_eq_true rfl)⟩ ⟨(Nat.le_of_ble_eq_true rfl), (Nat.le_of_ble_eq_true rfl)⟩) hP hD hS X.2.2.2.2.2.2.2.1 [2] [0, 1] rfl rfl rfl (by decide) (fun r w H locs hB hP hD hS => ?_)
  obtain ⟨q3, q4, q5, q6, rfl, rfl⟩ := hB
  have hP : va_P E.1 gk_cl [(h0, .inr (0, [.ref q1, .null, .null, .null, .int 0, .null])), (q1, .inl (E.2.1 1, 3000, .inl (fun _ => 0))), (q2, .inr (1, [.ref q3, .ref q4, .ref q5, .ref q6, .int 0]))] H := hP
  have hD : va_D A [(h0, .inr (0, [.ref q1, .null, .null, .null, .int 0, .null])), (q1, .inl (E.2.1 1, 3000, .inl (fun _ => 0))), (q2, .inr (1, [.ref q3, .ref q4, .ref q5, .ref q6, .int 0]))] := hD
  refine W.widen (k := 6) (n := 3125) (by omega) (by omega) ?_
  refine gk_put (b := h0) (ci := 0) (v := .ref q2) (ty := t_Jt 1) (ws' := [(h0, .inr (0, [.ref q1, .ref q2, .null, .null, .int 0, .null])), (q1, .inl (E.2.1 1, 3000, .inl (fun _ => 0))), (q2, .inr (1, [.ref q3, .ref q4, .ref q5, .ref q6, .int 0]))]) X in_Jt t_Jt t_Jt_ok n_Jt hP hD hS 0 rfl rfl 1 (by decide) k_303 (Or.inr ⟨rfl, rfl, rfl⟩) (t_Jt_ok 1 (by decide)) rfl rfl (Nat.le_of_ble_eq_true rfl) d_Jt_init_21 rfl (fun H locs hP hD hS => ?_)
  refine lv_aload_n hx hb d_Jt_init_24 rfl (lv_at hl 0 rfl) ?_
  refine gk_new (ci := 5) (fs := df_Al) X in_Al t_Al t_Al_ok k_149 k_150 k_94 hP hD hS rfl df_Al_ok (Nat.le_of_ble_eq_true rfl) (Nat.le_of_ble_eq_true rfl) d_Jt_init_25 (fun q7 H hP hD hS => ?_)
  have hP : va_P E.1 gk_cl [(h0, .inr (0, [.ref q1, .ref q2, .null, .null, .int 0, .null])), (q1, .inl (E.2.1 1, 3000, .inl (fun _ => 0))), (q2, .inr (1, [.ref q3, .ref q4, .ref q5, .ref q6, .int 0])), (q7, .inr (5, [.int 0, .null, .int 0]))] H := hP
  have hD : va_D A [(h0, .inr (0, [.ref q1, .ref q2, .null, .null, .int 0, .null])), (q1, .inl (E.2.1 1, 3000, .inl (fun _ => 0))), (q2, .inr (1, [.ref q3, .ref q4, .ref q5, .ref q6, .int 0])), (q7, .inr (5, [.int 0, .null, .int 0]))] := hD
  refine W.widen (k := 7) (n := 3128) (by omega) (by omega) ?_
  refine lv_dup hx hb d_Jt_init_28 rfl ?_
  refine gk_back (wr := [(h0, .inr (0, [.ref q1, .ref q2, .null, .null, .int 0, .null])), (q1, .inl (E.2.1 1, 3000, .inl (fun _ => 0))), (q2, .inr (1, [.ref q3, .ref q4, .ref q5, .ref q6, .int 0]))]) (gk_runI (As := []) (rest := [.ref q7, .ref h0]) X (c_Al_init l E q7 H.size) ok_Al_init (Or.inl k_151) k_152 rfl rfl hP hD hS [3] rfl rfl hl.1 rfl (Nat.le_of_ble_eq_true rfl) d_Jt_init_29 ⟨(Nat.le_of_ble_eq_true rfl), (Nat.le_of_ble_eq_true rfl)⟩ ⟨(Nat.le_of_ble_eq_true rfl), (Nat.le_of_ble_eq_true rfl)⟩) hP hD hS X.2.2.2.2.2.2.2.1 [3] [0, 1, 2] rfl rfl rfl (by decide) (fun r w H locs hB hP hD hS => ?_)
  obtain ⟨rfl, rfl⟩ := hB
  have hP : va_P E.1 gk_cl [(h0, .inr (0, [.ref q1, .ref q2, .null, .null, .int 0, .null])), (q1, .inl (E.2.1 1, 3000, .inl (fun _ => 0))), (q2, .inr (1, [.ref q3, .ref q4, .ref q5, .ref q6, .int 0])), (q7, .inr (5, [.int 0, .ref E.2.2, .int 0]))] H := hP
  have hD : va_D A [(h0, .inr (0, [.ref q1, .ref q2, .null, .null, .int 0, .null])), (q1, .inl (E.2.1 1, 3000, .inl (fun _ => 0))), (q2, .inr (1, [.ref q3, .ref q4, .ref q5, .ref q6, .int 0])), (q7, .inr (5, [.int 0, .ref E.2.2, .int 0]))] := hD
  refine W.widen (k := 7) (n := 3128) (by omega) (by omega) ?_
  refine gk_put (b := h0) (ci := 0) (v := .ref q7) (ty := t_Jt 2) (ws' := [(h0, .inr (0, [.ref q1, .ref q2, .ref q7, .null, .int 0, .null])), (q1, .inl (E.2.1 1, 3000, .inl (fun _ => 0))), (q2, .inr (1, [.ref q3, .ref q4, .ref q5, .ref q6, .int 0])), (q7, .inr (5, [.int 0, .ref E.2.2, .int 0]))]) X in_Jt t_Jt t_Jt_ok n_Jt hP hD hS 0 rfl rfl 2 (by decide) k_304 (Or.inr ⟨rfl, rfl, rfl⟩) (t_Jt_ok 2 (by decide)) rfl rfl (Nat.le_of_ble_eq_true rfl) d_Jt_init_32 rfl (fun H locs hP hD hS => ?_)
  refine lv_aload_n hx hb d_Jt_init_35 rfl (lv_at hl 0 rfl) ?_
  refine gk_new (ci := 2) (fs := df_Ex) X in_Ex t_Ex t_Ex_ok k_175 k_176 k_95 hP hD hS rfl df_Ex_ok (Nat.le_of_ble_eq_true rfl) (Nat.le_of_ble_eq_true rfl) d_Jt_init_36 (fun q8 H hP hD hS => ?_)
  have hP : va_P E.1 gk_cl [(h0, .inr (0, [.ref q1, .ref q2, .ref q7, .null, .int 0, .null])), (q1, .inl (E.2.1 1, 3000, .inl (fun _ => 0))), (q2, .inr (1, [.ref q3, .ref q4, .ref q5, .ref q6, .int 0])), (q7, .inr (5, [.int 0, .ref E.2.2, .int 0])), (q8, .inr (2, [.null, .null, .null, .null, .null, .null, .null, .int 0, .int 0, .long 0, .int 0, .int 0]))] H := hP
  have hD : va_D A [(h0, .inr (0, [.ref q1, .ref q2, .ref q7, .null, .int 0, .null])), (q1, .inl (E.2.1 1, 3000, .inl (fun _ => 0))), (q2, .inr (1, [.ref q3, .ref q4, .ref q5, .ref q6, .int 0])), (q7, .inr (5, [.int 0, .ref E.2.2, .int 0])), (q8, .inr (2, [.null, .null, .null, .null, .null, .null, .null, .int 0, .int 0, .long 0, .int 0, .int 0]))] := hD
  refine W.widen (k := 8) (n := 3140) (by omega) (by omega) ?_
  refine lv_dup hx hb d_Jt_init_39 rfl ?_
  refine gk_back (wr := [(h0, .inr (0, [.ref q1, .ref q2, .ref q7, .null, .int 0, .null])), (q1, .inl (E.2.1 1, 3000, .inl (fun _ => 0))), (q2, .inr (1, [.ref q3, .ref q4, .ref q5, .ref q6, .int 0])), (q7, .inr (5, [.int 0, .ref E.2.2, .int 0]))]) (gk_runI (As := []) (rest := [.ref q8, .ref h0]) X (c_Ex_init l E q8 H.size) ok_Ex_init (Or.inr nk_1) k_178 rfl rfl hP hD hS [4] rfl rfl hl.1 rfl (Nat.le_of_ble_eq_true rfl) d_Jt_init_40 ⟨(Nat.le_of_ble_eq_true rfl), (Nat.le_of_ble_eq_true rfl)⟩ ⟨(Nat.le_of_ble_eq_true rfl), (Nat.le_of_ble_eq_true rfl)⟩) hP hD hS X.2.2.2.2.2.2.2.1 [4] [0, 1, 2, 3] rfl rfl rfl (by decide) (fun r w H locs hB hP hD hS => ?_)
  obtain ⟨q9, q10, q11, q12, q13, q14, q15, q16, q17, q18, q19, q20, q21, q22, rfl, rfl⟩ := hB
  have hP : va_P E.1 gk_cl [(h0, .inr (0, [.ref q1, .ref q2, .ref q7, .null, .int 0, .null])), (q1, .inl (E.2.1 1, 3000, .inl (fun _ => 0))), (q2, .inr (1, [.ref q3, .ref q4, .ref q5, .ref q6, .int 0])), (q7, .inr (5, [.int 0, .ref E.2.2, .int 0])), (q8, .inr (2, [.ref q9, .ref q10, .ref q11, .ref q12, .ref q13, .ref q14, .ref q15, .int 0, .int 0, .long 0, .int 0, .int 0])), (q9, .inr (3, [.ref q16, .ref q17, .ref q18, .ref q19, .ref q20, .ref q21, .ref q22, .int 0]))] H := hP
  have hD : va_D A [(h0, .inr (0, [.ref q1, .ref q2, .ref q7, .null, .int 0, .null])), (q1, .inl (E.2.1 1, 3000, .inl (fun _ => 0))), (q2, .inr (1, [.ref q3, .ref q4, .ref q5, .ref q6, .int 0])), (q7, .inr (5, [.int 0, .ref E.2.2, .int 0])), (q8, .inr (2, [.ref q9, .ref q10, .ref q11, .ref q12, .ref q13, .ref q14, .ref q15, .int 0, .int 0, .long 0, .int 0, .int 0])), (q9, .inr (3, [.ref q16, .ref q17, .ref q18, .ref q19, .ref q20, .ref q21, .ref q22, .int 0]))] := hD
  refine W.widen (k := 29) (n := 4300) (by omega) (by omega) ?_
  refine gk_put (b := h0) (ci := 0) (v := .ref q8) (ty := t_Jt 3) (ws' := [(h0, .inr (0, [.ref q1, .ref q2, .ref q7, .ref q8, .int 0, .null])), (q1, .inl (E.2.1 1, 3000, .inl (fun _ => 0))), (q2, .inr (1, [.ref q3, .ref q4, .ref q5, .ref q6, .int 0])), (q7, .inr (5, [.int 0, .ref E.2.2, .int 0])), (q8, .inr (2, [.ref q9, .ref q10, .ref q11, .ref q12, .ref q13, .ref q14, .ref q15, .int 0, .int 0, .long 0, .int 0, .int 0])), (q9, .inr (3, [.ref q16, .ref q17, .ref q18, .ref q19, .ref q20, .ref q21, .ref q22, .int 0]))]) X in_Jt t_Jt t_Jt_ok n_Jt hP hD hS 0 rfl rfl 3 (by decide) k_305 (Or.inr ⟨rfl, rfl, rfl⟩) (t_Jt_ok 3 (by decide)) rfl rfl (Nat.le_of_ble_eq_true rfl) d_Jt_init_43 rfl (fun H locs hP hD hS => ?_)
  have hP9 := hP.sub (ws' := [(h0, .inr (0, [.ref q1, .ref q2, .ref q7, .ref q8, .int 0, .null])), (q1, .inl (E.2.1 1, 3000, .inl (fun _ => 0))), (q2, .inr (1, [.ref q3, .ref q4, .ref q5, .ref q6, .int 0])), (q7, .inr (5, [.int 0, .ref E.2.2, .int 0])), (q8, .inr (2, [.ref q9, .ref q10, .ref q11, .ref q12, .ref q13, .ref q14, .ref q15, .int 0, .int 0, .long 0, .int 0, .int 0])), (q9, .inr (3, [.ref q16, .ref q17, .ref q18, .ref q19, .ref q20, .ref q21, .ref q22, .int 0]))]) [0, 1, 2, 3, 4, 5] rfl
  have hD9 := hD.sub (ws' := [(h0, .inr (0, [.ref q1, .ref q2, .ref q7, .ref q8, .int 0, .null])), (q1, .inl (E.2.1 1, 3000, .inl (fun _ => 0))), (q2, .inr (1, [.ref q3, .ref q4, .ref q5, .ref q6, .int 0])), (q7, .inr (5, [.int 0, .ref E.2.2, .int 0])), (q8, .inr (2, [.ref q9, .ref q10, .ref q11, .ref q12, .ref q13, .ref q14, .ref q15, .int 0, .int 0, .long 0, .int 0, .int 0])), (q9, .inr (3, [.ref q16, .ref q17, .ref q18, .ref q19, .ref q20, .ref q21, .ref q22, .int 0]))]) [0, 1, 2, 3, 4, 5] (by decide) rfl
  refine W.widen (k := 29) (n := 4300) (Nat.le_of_ble_eq_true rfl) (Nat.le_of_ble_eq_true rfl) ?_
  exact W.vret hx hb hr (gk_q hP9 hD9 hS ⟨q1, q2, q7, q8, q3, q4, q5, q6, q9, q10, q11, q12, q13, q14, q15, q16, q17, q18, q19, q20, q21, q22, rfl, rfl⟩) hS.2.2 d_Jt_init_46
