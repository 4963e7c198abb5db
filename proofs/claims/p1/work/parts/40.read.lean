set_option maxHeartbeats 4000000 in
set_option maxRecDepth 100000 in
theorem c_Te_init (l : Launch) (E : gk_E) (h0 : Nat) (sz : Nat) : gk_M l E y_Te_init b_Te_init 1 (none) 4 6 266 [.ref h0] [(h0, .inr (7, [.null, .null, .null, .null, .null, .int 0, .int 0]))] sz (fun r w => ∃ q1 : Nat, ∃ q5 : Nat, ∃ q6 : Nat, r = none ∧ w = [(h0, .inr (7, [.ref q1, .ref q5, .ref q6, .null, .null, .int 0, .int 0])), (q5, .inr (5, [.int 0, .ref E.2.2, .int 0])), (q6, .inr (5, [.int 0, .ref E.2.2, .int 0]))]) := by
  refine gk_met (by decide) (Nat.le_of_ble_eq_true rfl) ?_
  intro p e s m below meth c A ls X hl hP hD hS
  have hx := X.1
  have hb := X.2.1
  have hown := X.2.2.2.1
  have hts := X.2.2.2.2.1
  have hZ := X.2.2.2.2.2.2.1
  have hr := X.2.2.2.2.2.2.2.2.1
  have hlocks : meth.locks = false := X.2.2.2.2.2.2.2.2.2.1
  have hl : lv_has ls 1 [(0, .ref h0)] := hl
  refine lv_aload_n hx hb d_Te_init_0 rfl (lv_at hl 0 rfl) ?_
  refine gk_oi X k_341 k_123 k_124 hl.1 d_Te_init_1 (Nat.le_of_ble_eq_true rfl) (Nat.le_of_ble_eq_true rfl) ?_
  refine lv_aload_n hx hb d_Te_init_4 rfl (lv_at hl 0 rfl) ?_
  refine gk_new (ci := 4) (fs := df_Ro) X in_Ro t_Ro t_Ro_ok k_342 k_244 k_101 hP hD hS rfl df_Ro_ok (Nat.le_of_ble_eq_true rfl) (Nat.le_of_ble_eq_true rfl) d_Te_init_5 (fun q1 H hP hD hS => ?_)
  have hP : va_P E.1 gk_cl [(h0, .inr (7, [.null, .null, .null, .null, .null, .int 0, .int 0])), (q1, .inr (4, [.null, .null, .null, .int 0]))] H := hP
  have hD : va_D A [(h0, .inr (7, [.null, .null, .null, .null, .null, .int 0, .int 0])), (q1, .inr (4, [.null, .null, .null, .int 0]))] := hD
  refine W.widen (k := 1) (n := 4) (by omega) (by omega) ?_
  refine lv_dup hx hb d_Te_init_8 rfl ?_
  refine gk_back (wr := [(h0, .inr (7, [.null, .null, .null, .null, .null, .int 0, .int 0]))]) (gk_runI (As := []) (rest := [.ref q1, .ref h0]) X (c_Ro_init l E q1 H.size) ok_Ro_init (Or.inr nk_5) k_246 rfl rfl hP hD hS [1] rfl rfl hl.1 rfl (Nat.le_of_ble_eq_true rfl) d_Te_init_9 ⟨(Nat.le_of_ble_eq_true rfl), (Nat.le_of_ble_eq_true rfl)⟩ ⟨(Nat.le_of_ble_eq_true rfl), (Nat.le_of_ble_eq_true rfl)⟩) hP hD hS X.2.2.2.2.2.2.2.1 [1] [0] rfl rfl rfl (by decide) (fun r w H locs hB hP hD hS => ?_)
  obtain ⟨q2, q3, q4, rfl, rfl⟩ := hB
  have hP : va_P E.1 gk_cl [(h0, .inr (7, [.null, .null, .null, .null, .null, .int 0, .int 0])), (q1, .inr (4, [.ref q2, .ref q3, .ref q4, .int 0]))] H := hP
  have hD : va_D A [(h0, .inr (7, [.null, .null, .null, .null, .null, .int 0, .int 0])), (q1, .inr (4, [.ref q2, .ref q3, .ref q4, .int 0]))] := hD
  refine W.widen (k := 4) (n := 260) (by omega) (by omega) ?_
  refine gk_put (b := h0) (ci := 7) (v := .ref q1) (ty := t_Te 0) (ws' := [(h0, .inr (7, [.ref q1, .null, .null, .null, .null, .int 0, .int 0])), (q1, .inr (4, [.ref q2, .ref q3, .ref q4, .int 0]))]) X in_Te t_Te t_Te_ok n_Te hP hD hS 0 rfl rfl 0 (by decide) k_346 (Or.inr ⟨rfl, rfl, rfl⟩) (t_Te_ok 0 (by decide)) rfl rfl (Nat.le_of_ble_eq_true rfl) d_Te_init_12 rfl (fun H locs hP hD hS => ?_)
  refine lv_aload_n hx hb d_Te_init_15 rfl (lv_at hl 0 rfl) ?_
  refine gk_new (ci := 5) (fs := df_Al) X in_Al t_Al t_Al_ok k_344 k_150 k_94 hP hD hS rfl df_Al_ok (Nat.le_of_ble_eq_true rfl) (Nat.le_of_ble_eq_true rfl) d_Te_init_16 (fun q5 H hP hD hS => ?_)
  have hP : va_P E.1 gk_cl [(h0, .inr (7, [.ref q1, .null, .null, .null, .null, .int 0, .int 0])), (q1, .inr (4, [.ref q2, .ref q3, .ref q4, .int 0])), (q5, .inr (5, [.int 0, .null, .int 0]))] H := hP
  have hD : va_D A [(h0, .inr (7, [.ref q1, .null, .null, .null, .null, .int 0, .int 0])), (q1, .inr (4, [.ref q2, .ref q3, .ref q4, .int 0])), (q5, .inr (5, [.int 0, .null, .int 0]))] := hD
  refine W.widen (k := 5) (n := 263) (by omega) (by omega) ?_
  refine lv_dup hx hb d_Te_init_19 rfl ?_
  refine gk_back (wr := [(h0, .inr (7, [.ref q1, .null, .null, .null, .null, .int 0, .int 0])), (q1, .inr (4, [.ref q2, .ref q3, .ref q4, .int 0]))]) (gk_runI (As := []) (rest := [.ref q5, .ref h0]) X (c_Al_init l E q5 H.size) ok_Al_init (Or.inl k_345) k_152 rfl rfl hP hD hS [2] rfl rfl hl.1 rfl (Nat.le_of_ble_eq_true rfl) d_Te_init_20 ⟨(Nat.le_of_ble_eq_true rfl), (Nat.le_of_ble_eq_true rfl)⟩ ⟨(Nat.le_of_ble_eq_true rfl), (Nat.le_of_ble_eq_true rfl)⟩) hP hD hS X.2.2.2.2.2.2.2.1 [2] [0, 1] rfl rfl rfl (by decide) (fun r w H locs hB hP hD hS => ?_)
  obtain ⟨rfl, rfl⟩ := hB
  have hP : va_P E.1 gk_cl [(h0, .inr (7, [.ref q1, .null, .null, .null, .null, .int 0, .int 0])), (q1, .inr (4, [.ref q2, .ref q3, .ref q4, .int 0])), (q5, .inr (5, [.int 0, .ref E.2.2, .int 0]))] H := hP
  have hD : va_D A [(h0, .inr (7, [.ref q1, .null, .null, .null, .null, .int 0, .int 0])), (q1, .inr (4, [.ref q2, .ref q3, .ref q4, .int 0])), (q5, .inr (5, [.int 0, .ref E.2.2, .int 0]))] := hD
  refine W.widen (k := 5) (n := 263) (by omega) (by omega) ?_
  refine gk_put (b := h0) (ci := 7) (v := .ref q5) (ty := t_Te 1) (ws' := [(h0, .inr (7, [.ref q1, .ref q5, .null, .null, .null, .int 0, .int 0])), (q1, .inr (4, [.ref q2, .ref q3, .ref q4, .int 0])), (q5, .inr (5, [.int 0, .ref E.2.2, .int 0]))]) X in_Te t_Te t_Te_ok n_Te hP hD hS 0 rfl rfl 1 (by decide) k_347 (Or.inr ⟨rfl, rfl, rfl⟩) (t_Te_ok 1 (by decide)) rfl rfl (Nat.le_of_ble_eq_true rfl) d_Te_init_23 rfl (fun H locs hP hD hS => ?_)
  refine lv_aload_n hx hb d_Te_init_26 rfl (lv_at hl 0 rfl) ?_
  refine gk_new (ci := 5) (fs := df_Al) X in_Al t_Al t_Al_ok k_344 k_150 k_94 hP hD hS rfl df_Al_ok (Nat.le_of_ble_eq_true rfl) (Nat.le_of_ble_eq_true rfl) d_Te_init_27 (fun q6 H hP hD hS => ?_)
  have hP : va_P E.1 gk_cl [(h0, .inr (7, [.ref q1, .ref q5, .null, .null, .null, .int 0, .int 0])), (q1, .inr (4, [.ref q2, .ref q3, .ref q4, .int 0])), (q5, .inr (5, [.int 0, .ref E.2.2, .int 0])), (q6, .inr (5, [.int 0, .null, .int 0]))] H := hP
  have hD : va_D A [(h0, .inr (7, [.ref q1, .ref q5, .null, .null, .null, .int 0, .int 0])), (q1, .inr (4, [.ref q2, .ref q3, .ref q4, .int 0])), (q5, .inr (5, [.int 0, .ref E.2.2, .int 0])), (q6, .inr (5, [.int 0, .null, .int 0]))] := hD
  refine W.widen (k := 6) (n := 266) (by omega) (by omega) ?_
  refine lv_dup hx hb d_Te_init_30 rfl ?_
  refine gk_back (wr := [(h0, .inr (7, [.ref q1, .ref q5, .null, .null, .null, .int 0, .int 0])), (q1, .inr (4, [.ref q2, .ref q3, .ref q4, .int 0])), (q5, .inr (5, [.int 0, .ref E.2.2, .int 0]))]) (gk_runI (As := []) (rest := [.ref q6, .ref h0]) X (c_Al_init l E q6 H.size) ok_Al_init (Or.inl k_345) k_152 rfl rfl hP hD hS [3] rfl rfl hl.1 rfl (Nat.le_of_ble_eq_true rfl) d_Te_init_31 ⟨(Nat.le_of_ble_eq_true rfl), (Nat.le_of_ble_eq_true rfl)⟩ ⟨(Nat.le_of_ble_eq_true rfl), (Nat.le_of_ble_eq_true rfl)⟩) hP hD hS X.2.2.2.2.2.2.2.1 [3] [0, 1, 2] rfl rfl rfl (by decide) (fun r w H locs hB hP hD hS => ?_)
  obtain ⟨rfl, rfl⟩ := hB
  have hP : va_P E.1 gk_cl [(h0, .inr (7, [.ref q1, .ref q5, .null, .null, .null, .int 0, .int 0])), (q1, .inr (4, [.ref q2, .ref q3, .ref q4, .int 0])), (q5, .inr (5, [.int 0, .ref E.2.2, .int 0])), (q6, .inr (5, [.int 0, .ref E.2.2, .int 0]))] H := hP
  have hD : va_D A [(h0, .inr (7, [.ref q1, .ref q5, .null, .null, .null, .int 0, .int 0])), (q1, .inr (4, [.ref q2, .ref q3, .ref q4, .int 0])), (q5, .inr (5, [.int 0, .ref E.2.2, .int 0])), (q6, .inr (5, [.int 0, .ref E.2.2, .int 0]))] := hD
  refine W.widen (k := 6) (n := 266) (by omega) (by omega) ?_
  refine gk_put (b := h0) (ci := 7) (v := .ref q6) (ty := t_Te 2) (ws' := [(h0, .inr (7, [.ref q1, .ref q5, .ref q6, .null, .null, .int 0, .int 0])), (q1, .inr (4, [.ref q2, .ref q3, .ref q4, .int 0])), (q5, .inr (5, [.int 0, .ref E.2.2, .int 0])), (q6, .inr (5, [.int 0, .ref E.2.2, .int 0]))]) X in_Te t_Te t_Te_ok n_Te hP hD hS 0 rfl rfl 2 (by decide) k_348 (Or.inr ⟨rfl, rfl, rfl⟩) (t_Te_ok 2 (by decide)) rfl rfl (Nat.le_of_ble_eq_true rfl) d_Te_init_34 rfl (fun H locs hP hD hS => ?_)
  have hP9 := hP.sub (ws' := [(h0, .inr (7, [.ref q1, .ref q5, .ref q6, .null, .null, .int 0, .int 0])), (q5, .inr (5, [.int 0, .ref E.2.2, .int 0])), (q6, .inr (5, [.int 0, .ref E.2.2, .int 0]))]) [0, 2, 3] rfl
  have hD9 := hD.sub (ws' := [(h0, .inr (7, [.ref q1, .ref q5, .ref q6, .null, .null, .int 0, .int 0])), (q5, .inr (5, [.int 0, .ref E.2.2, .int 0])), (q6, .inr (5, [.int 0, .ref E.2.2, .int 0]))]) [0, 2, 3] (by decide) rfl
  refine W.widen (k := 6) (n := 266) (Nat.le_of_ble_eq_true rfl) (Nat.le_of_ble_eq_true rfl) ?_
  exact W.vret hx hb hr (gk_q hP9 hD9 hS ⟨q1, q5, q6, rfl, rfl⟩) hS.2.2 d_Te_init_37

set_option maxHeartbeats 4000000 in
set_option maxRecDepth 100000 in
theorem c_Ln_totalOf (l : Launch) (E : gk_E) (a1 : Nat) (sz : Nat) : gk_M l E y_Ln_totalOf b_Ln_totalOf 4 (some .int) 0 0 0 [.ref a1, .int 0] [] sz (fun r w => r = some (.int 0) ∧ w = []) := by
  refine gk_met (by decide) (Nat.le_of_ble_eq_true rfl) ?_
  intro p e s m below meth c A ls X hl hP hD hS
  have hx := X.1
  have hb := X.2.1
  have hown := X.2.2.2.1
  have hts := X.2.2.2.2.1
  have hZ := X.2.2.2.2.2.2.1
  have hr := X.2.2.2.2.2.2.2.2.1
  have hlocks : meth.locks = false := X.2.2.2.2.2.2.2.2.2.1
  have hl : lv_has ls 4 [(0, .ref a1), (1, .int 0)] := hl
  refine lv_iconst (v := 0) hx hb d_Ln_totalOf_0 (by decide) ?_
  refine lv_istore_n (lv' := [(2, .int 0), (0, .ref a1), (1, .int 0)]) hx hb d_Ln_totalOf_1 rfl hl (by decide) rfl (fun ls hl => ?_)
  refine lv_iconst (v := 0) hx hb d_Ln_totalOf_2 (by decide) ?_
  refine lv_istore_n (lv' := [(3, .int 0), (2, .int 0), (0, .ref a1), (1, .int 0)]) hx hb d_Ln_totalOf_3 rfl hl (by decide) rfl (fun ls hl => ?_)
  refine lv_iload_n hx hb d_Ln_totalOf_4 rfl (lv_at hl 0 rfl) ?_
  refine lv_iload_n hx hb d_Ln_totalOf_5 rfl (lv_at hl 3 rfl) ?_
  refine lv_icmp_ge (tgt := 33) hx hb d_Ln_totalOf_6 (by decide) (fun _ => ?_) (fun c9 => absurd (by decide) c9)
  refine lv_iload_n hx hb d_Ln_totalOf_33 rfl (lv_at hl 1 rfl) ?_
  have hP9 := hP.sub (ws' := []) [] rfl
  have hD9 := hD.sub (ws' := []) [] (by decide) rfl
  refine W.widen (k := 0) (n := 0) (Nat.le_of_ble_eq_true rfl) (Nat.le_of_ble_eq_true rfl) ?_
  exact W.iret hx hb hr (gk_q hP9 hD9 hS ⟨rfl, rfl⟩) hS.2.2 d_Ln_totalOf_34

set_option maxHeartbeats 4000000 in
set_option maxRecDepth 100000 in
theorem c_Ln_init (l : Launch) (E : gk_E) (h0 : Nat) (a1 : Nat) (sz : Nat) : gk_M l E y_Ln_init b_Ln_init 7 (none) 1 2 0 [.ref h0, .ref a1, .int 0] [(h0, .inr (8, [.null, .null, .null, .int 0])), (a1, .inl (E.2.1 1, 3000, .inl (fun _ => 0)))] sz (fun r w => ∃ q3 : Nat, ∃ q4 : Nat, r = none ∧ w = [(h0, .inr (8, [.ref a1, .ref q3, .ref q4, .int 0]))]) := by
  refine gk_met (by decide) (Nat.le_of_ble_eq_true rfl) ?_
  intro p e s m below meth c A ls X hl hP hD hS
  have hx := X.1
  have hb := X.2.1
  have hown := X.2.2.2.1
  have hts := X.2.2.2.2.1
  have hZ := X.2.2.2.2.2.2.1
  have hr := X.2.2.2.2.2.2.2.2.1
  have hlocks : meth.locks = false := X.2.2.2.2.2.2.2.2.2.1
  have hl : lv_has ls 7 [(0, .ref h0), (1, .ref a1), (2, .int 0)] := hl
  refine lv_aload_n hx hb d_Ln_init_0 rfl (lv_at hl 0 rfl) ?_
  refine gk_oi X k_373 k_123 k_124 hl.1 d_Ln_init_1 (Nat.le_of_ble_eq_true rfl) (Nat.le_of_ble_eq_true rfl) ?_
  refine lv_aload_n hx hb d_Ln_init_4 rfl (lv_at hl 0 rfl) ?_
  refine lv_aload_n hx hb d_Ln_init_5 rfl (lv_at hl 1 rfl) ?_
  refine gk_put (b := h0) (ci := 8) (v := .ref a1) (ty := t_Ln 0) (ws' := [(h0, .inr (8, [.ref a1, .null, .null, .int 0])), (a1, .inl (E.2.1 1, 3000, .inl (fun _ => 0)))]) X in_Ln t_Ln t_Ln_ok n_Ln hP hD hS 0 rfl rfl 0 (by decide) k_380 (Or.inr ⟨rfl, rfl, rfl⟩) (t_Ln_ok 0 (by decide)) rfl rfl (Nat.le_of_ble_eq_true rfl) d_Ln_init_6 rfl (fun H locs hP hD hS => ?_)
  refine lv_iload_n hx hb d_Ln_init_9 rfl (lv_at hl 2 rfl) ?_
  refine lv_aload_n hx hb d_Ln_init_10 rfl (lv_at hl 1 rfl) ?_
  refine va_alen (v := 3000) hx hb X.2.2.2.2.2.1.1 hP 1 1 rfl rfl rfl d_Ln_init_11 ?_
  refine va_mmin hx hb (X.2.2.1.trans hl.1.symm) hown (hts _ k_374) (hts _ k_375) (hts _ k_105) (hts _ gk_min) (Nat.le_of_ble_eq_true rfl) (Nat.le_of_ble_eq_true rfl) (Nat.le_of_ble_eq_true rfl) (Nat.le_of_ble_eq_true rfl) d_Ln_init_12 ?_
  refine lv_topi (fun x2 ex2 => ?_)
  obtain rfl : x2 = (0 : Int32) := ex2.trans (by decide)
  refine lv_istore_n (lv' := [(3, .int 0), (0, .ref h0), (1, .ref a1), (2, .int 0)]) hx hb d_Ln_init_15 rfl hl (by decide) rfl (fun ls hl => ?_)
  refine lv_aload_n hx hb d_Ln_init_16 rfl (lv_at hl 1 rfl) ?_
  refine lv_aload_n hx hb d_Ln_init_17 rfl (lv_at hl 2 rfl) ?_
  refine lv_iload_n hx hb d_Ln_init_18 rfl (lv_at hl 0 rfl) ?_
  refine gk_back (wr := [(h0, .inr (8, [.ref a1, .null, .null, .int 0])), (a1, .inl (E.2.1 1, 3000, .inl (fun _ => 0)))]) (gk_runS (As := [.ref a1, .int 0]) (rest := [.ref h0]) X (c_Ln_totalOf l E a1 H.size) ok_Ln_totalOf (Or.inl k_377) k_378 rfl hP hD hS [] rfl rfl hl.1 rfl (Nat.le_of_ble_eq_true rfl) d_Ln_init_19 ⟨(Nat.le_of_ble_eq_true rfl), (Nat.le_of_ble_eq_true rfl)⟩ ⟨(Nat.le_of_ble_eq_true rfl), (Nat.le_of_ble_eq_true rfl)⟩) hP hD hS X.2.2.2.2.2.2.2.1 [] [0, 1] rfl rfl rfl (by decide) (fun r w H locs hB hP hD hS => ?_)
  obtain ⟨rfl, rfl⟩ := hB
  have hP : va_P E.1 gk_cl [(h0, .inr (8, [.ref a1, .null, .null, .int 0])), (a1, .inl (E.2.1 1, 3000, .inl (fun _ => 0)))] H := hP
  have hD : va_D A [(h0, .inr (8, [.ref a1, .null, .null, .int 0])), (a1, .inl (E.2.1 1, 3000, .inl (fun _ => 0)))] := hD
  refine W.widen (k := 0) (n := 0) (by omega) (by omega) ?_
  refine W.eq (g2 := F0 m 22 ls [.int 0, .ref h0]) rfl ?_
  refine gk_put (b := h0) (ci := 8) (v := .int 0) (ty := t_Ln 3) (ws' := [(h0, .inr (8, [.ref a1, .null, .null, .int 0])), (a1, .inl (E.2.1 1, 3000, .inl (fun _ => 0)))]) X in_Ln t_Ln t_Ln_ok n_Ln hP hD hS 0 rfl rfl 3 (by decide) k_383 (Or.inr ⟨rfl, rfl, rfl⟩) (t_Ln_ok 3 (by decide)) rfl rfl (Nat.le_of_ble_eq_true rfl) d_Ln_init_22 rfl (fun H locs hP hD hS => ?_)
  refine lv_aload_n hx hb d_Ln_init_25 rfl (lv_at hl 1 rfl) ?_
  refine lv_aload_n hx hb d_Ln_init_26 rfl (lv_at hl 1 rfl) ?_
  refine gk_get (b := h0) (ci := 8) (v := .int 0) X in_Ln hP 0 rfl rfl 3 (by decide) k_383 rfl d_Ln_init_27 ?_
  refine gk_newa (atype := .int) (N' := 0) (a0 := (0, .inl (fun _ => 0))) X k_148 (ty := .int) rfl 0 rfl hP hD hS (fun _ => rfl) (by decide) (by decide) (by decide) (Nat.le_of_ble_eq_true rfl) (Nat.le_of_ble_eq_true rfl) d_Ln_init_30 (fun q3 H hP hD hS => ?_)
  have hP := hP.sub (ws' := [(h0, .inr (8, [.ref a1, .null, .null, .int 0])), (a1, .inl (E.2.1 1, 3000, .inl (fun _ => 0)))]) [0, 1] rfl
  have hD := hD.sub (ws' := [(h0, .inr (8, [.ref a1, .null, .null, .int 0])), (a1, .inl (E.2.1 1, 3000, .inl (fun _ => 0)))]) [0, 1] (by decide) rfl
  refine W.widen (k := 1) (n := 0) (by omega) (by omega) ?_
  refine gk_put (b := h0) (ci := 8) (v := .ref q3) (ty := t_Ln 1) (ws' := [(h0, .inr (8, [.ref a1, .ref q3, .null, .int 0])), (a1, .inl (E.2.1 1, 3000, .inl (fun _ => 0)))]) X in_Ln t_Ln t_Ln_ok n_Ln hP hD hS 0 rfl rfl 1 (by decide) k_381 (Or.inr ⟨rfl, rfl, rfl⟩) (t_Ln_ok 1 (by decide)) rfl rfl (Nat.le_of_ble_eq_true rfl) d_Ln_init_32 rfl (fun H locs hP hD hS => ?_)
  refine lv_aload_n hx hb d_Ln_init_35 rfl (lv_at hl 1 rfl) ?_
  refine lv_aload_n hx hb d_Ln_init_36 rfl (lv_at hl 1 rfl) ?_
  refine gk_get (b := h0) (ci := 8) (v := .int 0) X in_Ln hP 0 rfl rfl 3 (by decide) k_383 rfl d_Ln_init_37 ?_
  refine gk_newa (atype := .int) (N' := 0) (a0 := (0, .inl (fun _ => 0))) X k_148 (ty := .int) rfl 0 rfl hP hD hS (fun _ => rfl) (by decide) (by decide) (by decide) (Nat.le_of_ble_eq_true rfl) (Nat.le_of_ble_eq_true rfl) d_Ln_init_40 (fun q4 H hP hD hS => ?_)
  have hP := hP.sub (ws' := [(h0, .inr (8, [.ref a1, .ref q3, .null, .int 0])), (a1, .inl (E.2.1 1, 3000, .inl (fun _ => 0)))]) [0, 1] rfl
  have hD := hD.sub (ws' := [(h0, .inr (8, [.ref a1, .ref q3, .null, .int 0])), (a1, .inl (E.2.1 1, 3000, .inl (fun _ => 0)))]) [0, 1] (by decide) rfl
  refine W.widen (k := 2) (n := 0) (by omega) (by omega) ?_
  refine gk_put (b := h0) (ci := 8) (v := .ref q4) (ty := t_Ln 2) (ws' := [(h0, .inr (8, [.ref a1, .ref q3, .ref q4, .int 0])), (a1, .inl (E.2.1 1, 3000, .inl (fun _ => 0)))]) X in_Ln t_Ln t_Ln_ok n_Ln hP hD hS 0 rfl rfl 2 (by decide) k_382 (Or.inr ⟨rfl, rfl, rfl⟩) (t_Ln_ok 2 (by decide)) rfl rfl (Nat.le_of_ble_eq_true rfl) d_Ln_init_42 rfl (fun H locs hP hD hS => ?_)
  refine lv_iconst (v := 0) hx hb d_Ln_init_45 (by decide) ?_
  refine lv_istore (lv' := [(4, .int 0), (3, .int 0), (0, .ref h0), (1, .ref a1), (2, .int 0)]) hx hb d_Ln_init_46 hl (by decide) rfl (fun ls hl => ?_)
  refine lv_iconst (v := 0) hx hb d_Ln_init_48 (by decide) ?_
  refine lv_istore (lv' := [(5, .int 0), (4, .int 0), (3, .int 0), (0, .ref h0), (1, .ref a1), (2, .int 0)]) hx hb d_Ln_init_49 hl (by decide) rfl (fun ls hl => ?_)
  refine lv_iconst (v := 0) hx hb d_Ln_init_51 (by decide) ?_
  refine lv_istore (lv' := [(6, .int 0), (5, .int 0), (4, .int 0), (3, .int 0), (0, .ref h0), (1, .ref a1), (2, .int 0)]) hx hb d_Ln_init_52 hl (by decide) rfl (fun ls hl => ?_)
  refine lv_iload hx hb d_Ln_init_54 (lv_at hl 0 rfl) ?_
  refine lv_iload_n hx hb d_Ln_init_56 rfl (lv_at hl 3 rfl) ?_
  refine lv_icmp_gt (tgt := 125) hx hb d_Ln_init_57 (by decide) (fun c9 => absurd c9 (by decide)) (fun _ => ?_)
  refine lv_iload hx hb d_Ln_init_60 (lv_at hl 2 rfl) ?_
  refine lv_aload_n hx hb d_Ln_init_62 rfl (lv_at hl 4 rfl) ?_
  refine gk_get (b := h0) (ci := 8) (v := .int 0) X in_Ln hP 0 rfl rfl 3 (by decide) k_383 rfl d_Ln_init_63 ?_
  refine lv_icmp_ge (tgt := 125) hx hb d_Ln_init_66 (by decide) (fun _ => ?_) (fun c9 => absurd (by decide) c9)
  have hP9 := hP.sub (ws' := [(h0, .inr (8, [.ref a1, .ref q3, .ref q4, .int 0]))]) [0] rfl
  have hD9 := hD.sub (ws' := [(h0, .inr (8, [.ref a1, .ref q3, .ref q4, .int 0]))]) [0] (by decide) rfl
  refine W.widen (k := 2) (n := 0) (Nat.le_of_ble_eq_true rfl) (Nat.le_of_ble_eq_true rfl) ?_
  exact W.vret hx hb hr (gk_q hP9 hD9 hS ⟨q3, q4, rfl, rfl⟩) hS.2.2 d_Ln_init_125

set_option maxHeartbeats 4000000 in
set_option maxRecDepth 100000 in
theorem c_Ln_total (l : Launch) (E : gk_E) (h0 : Nat) (q3 : Nat) (q4 : Nat) (a1 : Nat) (sz : Nat) : gk_M l E y_Ln_total b_Ln_total 1 (some .int) 0 0 0 [.ref h0] [(h0, .inr (8, [.ref a1, .ref q3, .ref q4, .int 0]))] sz (fun r w => r = some (.int 0) ∧ w = [(h0, .inr (8, [.ref a1, .ref q3, .ref q4, .int 0]))]) := by
  refine gk_met (by decide) (Nat.le_of_ble_eq_true rfl) ?_
  intro p e s m below meth c A ls X hl hP hD hS
  have hx := X.1
  have hb := X.2.1
  have hown := X.2.2.2.1
  have hts := X.2.2.2.2.1
  have hZ := X.2.2.2.2.2.2.1
  have hr := X.2.2.2.2.2.2.2.2.1
  have hlocks : meth.locks = false := X.2.2.2.2.2.2.2.2.2.1
  have hl : lv_has ls 1 [(0, .ref h0)] := hl
  refine lv_aload_n hx hb d_Ln_total_0 rfl (lv_at hl 0 rfl) ?_
  refine gk_get (b := h0) (ci := 8) (v := .int 0) X in_Ln hP 0 rfl rfl 3 (by decide) k_383 rfl d_Ln_total_1 ?_
  have hP9 := hP.sub (ws' := [(h0, .inr (8, [.ref a1, .ref q3, .ref q4, .int 0]))]) [0] rfl
  have hD9 := hD.sub (ws' := [(h0, .inr (8, [.ref a1, .ref q3, .ref q4, .int 0]))]) [0] (by decide) rfl
  refine W.widen (k := 0) (n := 0) (Nat.le_of_ble_eq_true rfl) (Nat.le_of_ble_eq_true rfl) ?_
  exact W.iret hx hb hr (gk_q hP9 hD9 hS ⟨rfl, rfl⟩) hS.2.2 d_Ln_total_4

set_option maxHeartbeats 4000000 in
set_option maxRecDepth 100000 in
theorem c_Te_rows (l : Launch) (E : gk_E) (h0 : Nat) (q1 : Nat) (q5 : Nat) (q6 : Nat) (sz : Nat) : gk_M l E y_Te_rows b_Te_rows 1 (some (.object "JobText$Rows")) 0 0 0 [.ref h0] [(h0, .inr (7, [.ref q1, .ref q5, .ref q6, .null, .null, .int 0, .int 0]))] sz (fun r w => r = some (.ref q1) ∧ w = [(h0, .inr (7, [.ref q1, .ref q5, .ref q6, .null, .null, .int 0, .int 0]))]) := by
  refine gk_met (by decide) (Nat.le_of_ble_eq_true rfl) ?_
  intro p e s m below meth c A ls X hl hP hD hS
  have hx := X.1
  have hb := X.2.1
  have hown := X.2.2.2.1
  have hts := X.2.2.2.2.1
  have hZ := X.2.2.2.2.2.2.1
  have hr := X.2.2.2.2.2.2.2.2.1
  have hlocks : meth.locks = false := X.2.2.2.2.2.2.2.2.2.1
  have hl : lv_has ls 1 [(0, .ref h0)] := hl
  refine lv_aload_n hx hb d_Te_rows_0 rfl (lv_at hl 0 rfl) ?_
  refine gk_get (b := h0) (ci := 7) (v := .ref q1) X in_Te hP 0 rfl rfl 0 (by decide) k_346 rfl d_Te_rows_1 ?_
  have hP9 := hP.sub (ws' := [(h0, .inr (7, [.ref q1, .ref q5, .ref q6, .null, .null, .int 0, .int 0]))]) [0] rfl
  have hD9 := hD.sub (ws' := [(h0, .inr (7, [.ref q1, .ref q5, .ref q6, .null, .null, .int 0, .int 0]))]) [0] (by decide) rfl
  refine W.widen (k := 0) (n := 0) (Nat.le_of_ble_eq_true rfl) (Nat.le_of_ble_eq_true rfl) ?_
  exact W.aret hx hb hr (Or.inl ⟨_, rfl⟩) (Or.inr ⟨_, rfl⟩) (gk_q hP9 hD9 hS ⟨rfl, rfl⟩) hS.2.2 d_Te_rows_4

set_option maxHeartbeats 4000000 in
set_option maxRecDepth 100000 in
theorem c_Te_isOpen (l : Launch) (E : gk_E) (h0 : Nat) (q1 : Nat) (q5 : Nat) (q6 : Nat) (sz : Nat) : gk_M l E y_Te_isOpen b_Te_isOpen 1 (some .boolean) 0 0 0 [.ref h0] [(h0, .inr (7, [.ref q1, .ref q5, .ref q6, .null, .null, .int 0, .int 0]))] sz (fun r w => r = some (.int 0) ∧ w = [(h0, .inr (7, [.ref q1, .ref q5, .ref q6, .null, .null, .int 0, .int 0]))]) := by
  refine gk_met (by decide) (Nat.le_of_ble_eq_true rfl) ?_
  intro p e s m below meth c A ls X hl hP hD hS
  have hx := X.1
  have hb := X.2.1
  have hown := X.2.2.2.1
  have hts := X.2.2.2.2.1
  have hZ := X.2.2.2.2.2.2.1
  have hr := X.2.2.2.2.2.2.2.2.1
  have hlocks : meth.locks = false := X.2.2.2.2.2.2.2.2.2.1
  have hl : lv_has ls 1 [(0, .ref h0)] := hl
  refine lv_aload_n hx hb d_Te_isOpen_0 rfl (lv_at hl 0 rfl) ?_
  refine gk_get (b := h0) (ci := 7) (v := .null) X in_Te hP 0 rfl rfl 4 (by decide) k_350 rfl d_Te_isOpen_1 ?_
  refine lv_ifnonnullN hx hb d_Te_isOpen_4 ?_
  refine lv_aload_n hx hb d_Te_isOpen_7 rfl (lv_at hl 0 rfl) ?_
  refine gk_get (b := h0) (ci := 7) (v := .int 0) X in_Te hP 0 rfl rfl 5 (by decide) k_351 rfl d_Te_isOpen_8 ?_
  refine lv_if_le (tgt := 18) hx hb d_Te_isOpen_11 (by decide) (fun _ => ?_) (fun c9 => absurd (by decide) c9)
  refine lv_iconst (v := 0) hx hb d_Te_isOpen_18 (by decide) ?_
  have hP9 := hP.sub (ws' := [(h0, .inr (7, [.ref q1, .ref q5, .ref q6, .null, .null, .int 0, .int 0]))]) [0] rfl
  have hD9 := hD.sub (ws' := [(h0, .inr (7, [.ref q1, .ref q5, .ref q6, .null, .null, .int 0, .int 0]))]) [0] (by decide) rfl
  refine W.widen (k := 0) (n := 0) (Nat.le_of_ble_eq_true rfl) (Nat.le_of_ble_eq_true rfl) ?_
  exact W.zret hx hb hr (by decide) (gk_q hP9 hD9 hS ⟨rfl, rfl⟩) hS.2.2 d_Te_isOpen_19

set_option maxHeartbeats 4000000 in
set_option maxRecDepth 100000 in
theorem c_Te_job (l : Launch) (E : gk_E) (h0 : Nat) (q1 : Nat) (q5 : Nat) (q6 : Nat) (sz : Nat) : gk_M l E y_Te_job b_Te_job 1 (some (.object "JobText$Body")) 0 0 0 [.ref h0] [(h0, .inr (7, [.ref q1, .ref q5, .ref q6, .null, .null, .int 0, .int 0]))] sz (fun r w => r = some (.null) ∧ w = [(h0, .inr (7, [.ref q1, .ref q5, .ref q6, .null, .null, .int 0, .int 0]))]) := by
  refine gk_met (by decide) (Nat.le_of_ble_eq_true rfl) ?_
  intro p e s m below meth c A ls X hl hP hD hS
  have hx := X.1
  have hb := X.2.1
  have hown := X.2.2.2.1
  have hts := X.2.2.2.2.1
  have hZ := X.2.2.2.2.2.2.1
  have hr := X.2.2.2.2.2.2.2.2.1
  have hlocks : meth.locks = false := X.2.2.2.2.2.2.2.2.2.1
  have hl : lv_has ls 1 [(0, .ref h0)] := hl
  refine lv_aload_n hx hb d_Te_job_0 rfl (lv_at hl 0 rfl) ?_
  refine gk_get (b := h0) (ci := 7) (v := .null) X in_Te hP 0 rfl rfl 3 (by decide) k_349 rfl d_Te_job_1 ?_
  have hP9 := hP.sub (ws' := [(h0, .inr (7, [.ref q1, .ref q5, .ref q6, .null, .null, .int 0, .int 0]))]) [0] rfl
  have hD9 := hD.sub (ws' := [(h0, .inr (7, [.ref q1, .ref q5, .ref q6, .null, .null, .int 0, .int 0]))]) [0] (by decide) rfl
  refine W.widen (k := 0) (n := 0) (Nat.le_of_ble_eq_true rfl) (Nat.le_of_ble_eq_true rfl) ?_
  exact W.aret hx hb hr (Or.inl ⟨_, rfl⟩) (Or.inl rfl) (gk_q hP9 hD9 hS ⟨rfl, rfl⟩) hS.2.2 d_Te_job_4

set_option maxHeartbeats 4000000 in
set_option maxRecDepth 100000 in
theorem c_Te_procedures (l : Launch) (E : gk_E) (h0 : Nat) (q1 : Nat) (q5 : Nat) (q6 : Nat) (sz : Nat) : gk_M l E y_Te_procedures b_Te_procedures 1 (some (.object "java/util/ArrayList")) 0 0 0 [.ref h0] [(h0, .inr (7, [.ref q1, .ref q5, .ref q6, .null, .null, .int 0, .int 0]))] sz (fun r w => r = some (.ref q6) ∧ w = [(h0, .inr (7, [.ref q1, .ref q5, .ref q6, .null, .null, .int 0, .int 0]))]) := by
  refine gk_met (by decide) (Nat.le_of_ble_eq_true rfl) ?_
  intro p e s m below meth c A ls X hl hP hD hS
  have hx := X.1
  have hb := X.2.1
  have hown := X.2.2.2.1
  have hts := X.2.2.2.2.1
  have hZ := X.2.2.2.2.2.2.1
  have hr := X.2.2.2.2.2.2.2.2.1
  have hlocks : meth.locks = false := X.2.2.2.2.2.2.2.2.2.1
  have hl : lv_has ls 1 [(0, .ref h0)] := hl
  refine lv_aload_n hx hb d_Te_procedures_0 rfl (lv_at hl 0 rfl) ?_
  refine gk_get (b := h0) (ci := 7) (v := .ref q6) X in_Te hP 0 rfl rfl 2 (by decide) k_348 rfl d_Te_procedures_1 ?_
  have hP9 := hP.sub (ws' := [(h0, .inr (7, [.ref q1, .ref q5, .ref q6, .null, .null, .int 0, .int 0]))]) [0] rfl
  have hD9 := hD.sub (ws' := [(h0, .inr (7, [.ref q1, .ref q5, .ref q6, .null, .null, .int 0, .int 0]))]) [0] (by decide) rfl
  refine W.widen (k := 0) (n := 0) (Nat.le_of_ble_eq_true rfl) (Nat.le_of_ble_eq_true rfl) ?_
  exact W.aret hx hb hr (Or.inl ⟨_, rfl⟩) (Or.inr ⟨_, rfl⟩) (gk_q hP9 hD9 hS ⟨rfl, rfl⟩) hS.2.2 d_Te_procedures_4

set_option maxHeartbeats 4000000 in
set_option maxRecDepth 100000 in
theorem c_Te_size (l : Launch) (E : gk_E) (h0 : Nat) (q1 : Nat) (q5 : Nat) (q6 : Nat) (sz : Nat) : gk_M l E y_Te_size b_Te_size 1 (some .int) 1 0 0 [.ref h0] [(h0, .inr (7, [.ref q1, .ref q5, .ref q6, .null, .null, .int 0, .int 0])), (q5, .inr (5, [.int 0, .ref E.2.2, .int 0]))] sz (fun r w => r = some (.int 0) ∧ w = [(h0, .inr (7, [.ref q1, .ref q5, .ref q6, .null, .null, .int 0, .int 0])), (q5, .inr (5, [.int 0, .ref E.2.2, .int 0]))]) := by
  refine gk_met (by decide) (Nat.le_of_ble_eq_true rfl) ?_
  intro p e s m below meth c A ls X hl hP hD hS
  have hx := X.1
  have hb := X.2.1
  have hown := X.2.2.2.1
  have hts := X.2.2.2.2.1
  have hZ := X.2.2.2.2.2.2.1
  have hr := X.2.2.2.2.2.2.2.2.1
  have hlocks : meth.locks = false := X.2.2.2.2.2.2.2.2.2.1
  have hl : lv_has ls 1 [(0, .ref h0)] := hl
  refine lv_aload_n hx hb d_Te_size_0 rfl (lv_at hl 0 rfl) ?_
  refine gk_get (b := h0) (ci := 7) (v := .ref q5) X in_Te hP 0 rfl rfl 1 (by decide) k_347 rfl d_Te_size_1 ?_
  refine gk_back (wr := [(h0, .inr (7, [.ref q1, .ref q5, .ref q6, .null, .null, .int 0, .int 0]))]) (gk_runV (As := []) (rest := []) (ci := 5) (q0 := 1) X (c_Al_size l E q5 s.heap.size) ok_Al_size (Or.inl k_763) k_732 k_733 rfl rfl rfl hP hD hS [1] rfl rfl hl.1 rfl (Nat.le_of_ble_eq_true rfl) d_Te_size_4 ⟨(Nat.le_of_ble_eq_true rfl), (Nat.le_of_ble_eq_true rfl)⟩ ⟨(Nat.le_of_ble_eq_true rfl), (Nat.le_of_ble_eq_true rfl)⟩) hP hD hS X.2.2.2.2.2.2.2.1 [1] [0] rfl rfl rfl (by decide) (fun r w H locs hB hP hD hS => ?_)
  obtain ⟨rfl, rfl⟩ := hB
  have hP : va_P E.1 gk_cl [(h0, .inr (7, [.ref q1, .ref q5, .ref q6, .null, .null, .int 0, .int 0])), (q5, .inr (5, [.int 0, .ref E.2.2, .int 0]))] H := hP
  have hD : va_D A [(h0, .inr (7, [.ref q1, .ref q5, .ref q6, .null, .null, .int 0, .int 0])), (q5, .inr (5, [.int 0, .ref E.2.2, .int 0]))] := hD
  refine W.widen (k := 0) (n := 0) (by omega) (by omega) ?_
  refine W.eq (g2 := F0 m 7 ls [.int 0]) rfl ?_
  have hP9 := hP.sub (ws' := [(h0, .inr (7, [.ref q1, .ref q5, .ref q6, .null, .null, .int 0, .int 0])), (q5, .inr (5, [.int 0, .ref E.2.2, .int 0]))]) [0, 1] rfl
  have hD9 := hD.sub (ws' := [(h0, .inr (7, [.ref q1, .ref q5, .ref q6, .null, .null, .int 0, .int 0])), (q5, .inr (5, [.int 0, .ref E.2.2, .int 0]))]) [0, 1] (by decide) rfl
  refine W.widen (k := 0) (n := 0) (Nat.le_of_ble_eq_true rfl) (Nat.le_of_ble_eq_true rfl) ?_
  exact W.iret hx hb hr (gk_q hP9 hD9 hS ⟨rfl, rfl⟩) hS.2.2 d_Te_size_7

set_option maxHeartbeats 4000000 in
set_option maxRecDepth 100000 in
theorem c_Re_init (l : Launch) (E : gk_E) (h9 : Nat) (b1 : Nat) (b2 : Nat) (q1 : Nat) (q5 : Nat) (q6 : Nat) (g0 : Nat) (sz : Nat) : gk_M l E y_Re_init b_Re_init 4 (none) 1 0 0 [.ref h9, .ref b1, .ref g0, .ref b2] [(h9, .inr (9, [.null, .null, .null, .null, .int 0, .int 0, .null, .null, .int 0])), (g0, .inr (7, [.ref q1, .ref q5, .ref q6, .null, .null, .int 0, .int 0]))] sz (fun r w => r = none ∧ w = [(g0, .inr (7, [.ref q1, .ref q5, .ref q6, .null, .null, .int 0, .int 0]))]) := by
  refine gk_met (by decide) (Nat.le_of_ble_eq_true rfl) ?_
  intro p e s m below meth c A ls X hl hP hD hS
  have hx := X.1
  have hb := X.2.1
  have hown := X.2.2.2.1
  have hts := X.2.2.2.2.1
  have hZ := X.2.2.2.2.2.2.1
  have hr := X.2.2.2.2.2.2.2.2.1
  have hlocks : meth.locks = false := X.2.2.2.2.2.2.2.2.2.1
  have hl : lv_has ls 4 [(0, .ref h9), (1, .ref b1), (2, .ref g0), (3, .ref b2)] := hl
  refine lv_aload_n hx hb d_Re_init_0 rfl (lv_at hl 0 rfl) ?_
  refine gk_oi X k_398 k_123 k_124 hl.1 d_Re_init_1 (Nat.le_of_ble_eq_true rfl) (Nat.le_of_ble_eq_true rfl) ?_
  refine lv_aload_n hx hb d_Re_init_4 rfl (lv_at hl 0 rfl) ?_
  refine lv_aload_n hx hb d_Re_init_5 rfl (lv_at hl 1 rfl) ?_
  refine gk_put (b := h9) (ci := 9) (v := .ref b1) (ty := t_Re 0) (ws' := [(h9, .inr (9, [.ref b1, .null, .null, .null, .int 0, .int 0, .null, .null, .int 0])), (g0, .inr (7, [.ref q1, .ref q5, .ref q6, .null, .null, .int 0, .int 0]))]) X in_Re t_Re t_Re_ok n_Re hP hD hS 0 rfl rfl 0 (by decide) k_403 (Or.inr ⟨rfl, rfl, rfl⟩) (t_Re_ok 0 (by decide)) rfl rfl (Nat.le_of_ble_eq_true rfl) d_Re_init_6 rfl (fun H locs hP hD hS => ?_)
  refine lv_aload_n hx hb d_Re_init_9 rfl (lv_at hl 0 rfl) ?_
  refine lv_aload_n hx hb d_Re_init_10 rfl (lv_at hl 2 rfl) ?_
  refine gk_put (b := h9) (ci := 9) (v := .ref g0) (ty := t_Re 1) (ws' := [(h9, .inr (9, [.ref b1, .ref g0, .null, .null, .int 0, .int 0, .null, .null, .int 0])), (g0, .inr (7, [.ref q1, .ref q5, .ref q6, .null, .null, .int 0, .int 0]))]) X in_Re t_Re t_Re_ok n_Re hP hD hS 0 rfl rfl 1 (by decide) k_404 (Or.inr ⟨rfl, rfl, rfl⟩) (t_Re_ok 1 (by decide)) rfl rfl (Nat.le_of_ble_eq_true rfl) d_Re_init_11 rfl (fun H locs hP hD hS => ?_)
  refine lv_aload_n hx hb d_Re_init_14 rfl (lv_at hl 0 rfl) ?_
  refine lv_aload_n hx hb d_Re_init_15 rfl (lv_at hl 2 rfl) ?_
  refine gk_back (wr := [(h9, .inr (9, [.ref b1, .ref g0, .null, .null, .int 0, .int 0, .null, .null, .int 0]))]) (gk_runV (As := []) (rest := [.ref h9]) (ci := 7) (q0 := 1) X (c_Te_rows l E g0 q1 q5 q6 H.size) ok_Te_rows (Or.inl k_399) k_400 k_401 rfl rfl rfl hP hD hS [1] rfl rfl hl.1 rfl (Nat.le_of_ble_eq_true rfl) d_Re_init_16 ⟨(Nat.le_of_ble_eq_true rfl), (Nat.le_of_ble_eq_true rfl)⟩ ⟨(Nat.le_of_ble_eq_true rfl), (Nat.le_of_ble_eq_true rfl)⟩) hP hD hS X.2.2.2.2.2.2.2.1 [1] [0] rfl rfl rfl (by decide) (fun r w H locs hB hP hD hS => ?_)
  obtain ⟨rfl, rfl⟩ := hB
  have hP : va_P E.1 gk_cl [(h9, .inr (9, [.ref b1, .ref g0, .null, .null, .int 0, .int 0, .null, .null, .int 0])), (g0, .inr (7, [.ref q1, .ref q5, .ref q6, .null, .null, .int 0, .int 0]))] H := hP
  have hD : va_D A [(h9, .inr (9, [.ref b1, .ref g0, .null, .null, .int 0, .int 0, .null, .null, .int 0])), (g0, .inr (7, [.ref q1, .ref q5, .ref q6, .null, .null, .int 0, .int 0]))] := hD
  refine W.widen (k := 0) (n := 0) (by omega) (by omega) ?_
  refine W.eq (g2 := F0 m 19 ls [.ref q1, .ref h9]) rfl ?_
  refine gk_put (b := h9) (ci := 9) (v := .ref q1) (ty := t_Re 2) (ws' := [(h9, .inr (9, [.ref b1, .ref g0, .ref q1, .null, .int 0, .int 0, .null, .null, .int 0])), (g0, .inr (7, [.ref q1, .ref q5, .ref q6, .null, .null, .int 0, .int 0]))]) X in_Re t_Re t_Re_ok n_Re hP hD hS 0 rfl rfl 2 (by decide) k_405 (Or.inr ⟨rfl, rfl, rfl⟩) (t_Re_ok 2 (by decide)) rfl rfl (Nat.le_of_ble_eq_true rfl) d_Re_init_19 rfl (fun H locs hP hD hS => ?_)
  refine lv_aload_n hx hb d_Re_init_22 rfl (lv_at hl 0 rfl) ?_
  refine lv_aload_n hx hb d_Re_init_23 rfl (lv_at hl 3 rfl) ?_
  refine gk_put (b := h9) (ci := 9) (v := .ref b2) (ty := t_Re 3) (ws' := [(h9, .inr (9, [.ref b1, .ref g0, .ref q1, .ref b2, .int 0, .int 0, .null, .null, .int 0])), (g0, .inr (7, [.ref q1, .ref q5, .ref q6, .null, .null, .int 0, .int 0]))]) X in_Re t_Re t_Re_ok n_Re hP hD hS 0 rfl rfl 3 (by decide) k_406 (Or.inr ⟨rfl, rfl, rfl⟩) (t_Re_ok 3 (by decide)) rfl rfl (Nat.le_of_ble_eq_true rfl) d_Re_init_24 rfl (fun H locs hP hD hS => ?_)
  have hP9 := hP.sub (ws' := [(g0, .inr (7, [.ref q1, .ref q5, .ref q6, .null, .null, .int 0, .int 0]))]) [1] rfl
  have hD9 := hD.sub (ws' := [(g0, .inr (7, [.ref q1, .ref q5, .ref q6, .null, .null, .int 0, .int 0]))]) [1] (by decide) rfl
  refine W.widen (k := 0) (n := 0) (Nat.le_of_ble_eq_true rfl) (Nat.le_of_ble_eq_true rfl) ?_
  exact W.vret hx hb hr (gk_q hP9 hD9 hS ⟨rfl, rfl⟩) hS.2.2 d_Re_init_27

set_option maxHeartbeats 4000000 in
set_option maxRecDepth 100000 in
theorem c_Jt_shelve (l : Launch) (E : gk_E) (h0 : Nat) (q1 : Nat) (q2 : Nat) (q7 : Nat) (q8 : Nat) (g0 : Nat) (g1 : Nat) (g5 : Nat) (g6 : Nat) (sz : Nat) : gk_M l E y_Jt_shelve b_Jt_shelve 7 (some .boolean) 1 0 0 [.ref h0, .ref g0] [(h0, .inr (0, [.ref q1, .ref q2, .ref q7, .ref q8, .int 0, .null])), (q7, .inr (5, [.int 0, .ref E.2.2, .int 0])), (g0, .inr (7, [.ref g1, .ref g5, .ref g6, .null, .null, .int 0, .int 0])), (g6, .inr (5, [.int 0, .ref E.2.2, .int 0]))] sz (fun r w => r = some (.int 1) ∧ w = [(h0, .inr (0, [.ref q1, .ref q2, .ref q7, .ref q8, .int 0, .null])), (g0, .inr (7, [.ref g1, .ref g5, .ref g6, .null, .null, .int 0, .int 0])), (q7, .inr (5, [.int 0, .ref E.2.2, .int 0])), (g6, .inr (5, [.int 0, .ref E.2.2, .int 0]))]) := by
  refine gk_met (by decide) (Nat.le_of_ble_eq_true rfl) ?_
  intro p e s m below meth c A ls X hl hP hD hS
  have hx := X.1
  have hb := X.2.1
  have hown := X.2.2.2.1
  have hts := X.2.2.2.2.1
  have hZ := X.2.2.2.2.2.2.1
  have hr := X.2.2.2.2.2.2.2.2.1
  have hlocks : meth.locks = false := X.2.2.2.2.2.2.2.2.2.1
  have hl : lv_has ls 7 [(0, .ref h0), (1, .ref g0)] := hl
  refine lv_aload_n hx hb d_Jt_shelve_0 rfl (lv_at hl 1 rfl) ?_
  refine gk_back (wr := [(h0, .inr (0, [.ref q1, .ref q2, .ref q7, .ref q8, .int 0, .null])), (q7, .inr (5, [.int 0, .ref E.2.2, .int 0])), (g6, .inr (5, [.int 0, .ref E.2.2, .int 0]))]) (gk_runV (As := []) (rest := []) (ci := 7) (q0 := 2) X (c_Te_procedures l E g0 g1 g5 g6 s.heap.size) ok_Te_procedures (Or.inl k_911) k_912 k_913 rfl rfl rfl hP hD hS [2] rfl rfl hl.1 rfl (Nat.le_of_ble_eq_true rfl) d_Jt_shelve_1 ⟨(Nat.le_of_ble_eq_true rfl), (Nat.le_of_ble_eq_true rfl)⟩ ⟨(Nat.le_of_ble_eq_true rfl), (Nat.le_of_ble_eq_true rfl)⟩) hP hD hS X.2.2.2.2.2.2.2.1 [2] [0, 1, 3] rfl rfl rfl (by decide) (fun r w H locs hB hP hD hS => ?_)
  obtain ⟨rfl, rfl⟩ := hB
  have hP : va_P E.1 gk_cl [(h0, .inr (0, [.ref q1, .ref q2, .ref q7, .ref q8, .int 0, .null])), (q7, .inr (5, [.int 0, .ref E.2.2, .int 0])), (g6, .inr (5, [.int 0, .ref E.2.2, .int 0])), (g0, .inr (7, [.ref g1, .ref g5, .ref g6, .null, .null, .int 0, .int 0]))] H := hP
  have hD : va_D A [(h0, .inr (0, [.ref q1, .ref q2, .ref q7, .ref q8, .int 0, .null])), (q7, .inr (5, [.int 0, .ref E.2.2, .int 0])), (g6, .inr (5, [.int 0, .ref E.2.2, .int 0])), (g0, .inr (7, [.ref g1, .ref g5, .ref g6, .null, .null, .int 0, .int 0]))] := hD
  refine W.widen (k := 0) (n := 0) (by omega) (by omega) ?_
  refine W.eq (g2 := F0 m 4 ls [.ref g6]) rfl ?_
  refine lv_astore_n (lv' := [(2, .ref g6), (0, .ref h0), (1, .ref g0)]) hx hb d_Jt_shelve_4 rfl hl (by decide) rfl (fun ls hl => ?_)
  refine lv_iconst (v := 0) hx hb d_Jt_shelve_5 (by decide) ?_
  refine lv_istore_n (lv' := [(3, .int 0), (2, .ref g6), (0, .ref h0), (1, .ref g0)]) hx hb d_Jt_shelve_6 rfl hl (by decide) rfl (fun ls hl => ?_)
  refine lv_iconst (v := 0) hx hb d_Jt_shelve_7 (by decide) ?_
  refine lv_istore (lv' := [(4, .int 0), (3, .int 0), (2, .ref g6), (0, .ref h0), (1, .ref g0)]) hx hb d_Jt_shelve_8 hl (by decide) rfl (fun ls hl => ?_)
  refine lv_iload hx hb d_Jt_shelve_10 (lv_at hl 0 rfl) ?_
  refine lv_aload_n hx hb d_Jt_shelve_12 rfl (lv_at hl 2 rfl) ?_
  refine gk_back (wr := [(h0, .inr (0, [.ref q1, .ref q2, .ref q7, .ref q8, .int 0, .null])), (q7, .inr (5, [.int 0, .ref E.2.2, .int 0])), (g0, .inr (7, [.ref g1, .ref g5, .ref g6, .null, .null, .int 0, .int 0]))]) (gk_runV (As := []) (rest := [.int 0]) (ci := 5) (q0 := 2) X (c_Al_size l E g6 H.size) ok_Al_size (Or.inl k_731) k_732 k_733 rfl rfl rfl hP hD hS [2] rfl rfl hl.1 rfl (Nat.le_of_ble_eq_true rfl) d_Jt_shelve_13 ⟨(Nat.le_of_ble_eq_true rfl), (Nat.le_of_ble_eq_true rfl)⟩ ⟨(Nat.le_of_ble_eq_true rfl), (Nat.le_of_ble_eq_true rfl)⟩) hP hD hS X.2.2.2.2.2.2.2.1 [2] [0, 1, 3] rfl rfl rfl (by decide) (fun r w H locs hB hP hD hS => ?_)
  obtain ⟨rfl, rfl⟩ := hB
  have hP : va_P E.1 gk_cl [(h0, .inr (0, [.ref q1, .ref q2, .ref q7, .ref q8, .int 0, .null])), (q7, .inr (5, [.int 0, .ref E.2.2, .int 0])), (g0, .inr (7, [.ref g1, .ref g5, .ref g6, .null, .null, .int 0, .int 0])), (g6, .inr (5, [.int 0, .ref E.2.2, .int 0]))] H := hP
  have hD : va_D A [(h0, .inr (0, [.ref q1, .ref q2, .ref q7, .ref q8, .int 0, .null])), (q7, .inr (5, [.int 0, .ref E.2.2, .int 0])), (g0, .inr (7, [.ref g1, .ref g5, .ref g6, .null, .null, .int 0, .int 0])), (g6, .inr (5, [.int 0, .ref E.2.2, .int 0]))] := hD
  refine W.widen (k := 0) (n := 0) (by omega) (by omega) ?_
  refine W.eq (g2 := F0 m 16 ls [.int 0, .int 0]) rfl ?_
  refine lv_icmp_ge (tgt := 51) hx hb d_Jt_shelve_16 (by decide) (fun _ => ?_) (fun c9 => absurd (by decide) c9)
  refine lv_aload_n hx hb d_Jt_shelve_51 rfl (lv_at hl 3 rfl) ?_
  refine gk_get (b := h0) (ci := 0) (v := .ref q7) X in_Jt hP 0 rfl rfl 2 (by decide) k_304 rfl d_Jt_shelve_52 ?_
  refine gk_back (wr := [(h0, .inr (0, [.ref q1, .ref q2, .ref q7, .ref q8, .int 0, .null])), (g0, .inr (7, [.ref g1, .ref g5, .ref g6, .null, .null, .int 0, .int 0])), (g6, .inr (5, [.int 0, .ref E.2.2, .int 0]))]) (gk_runV (As := []) (rest := []) (ci := 5) (q0 := 1) X (c_Al_size l E q7 H.size) ok_Al_size (Or.inl k_731) k_732 k_733 rfl rfl rfl hP hD hS [1] rfl rfl hl.1 rfl (Nat.le_of_ble_eq_true rfl) d_Jt_shelve_55 ⟨(Nat.le_of_ble_eq_true rfl), (Nat.le_of_ble_eq_true rfl)⟩ ⟨(Nat.le_of_ble_eq_true rfl), (Nat.le_of_ble_eq_true rfl)⟩) hP hD hS X.2.2.2.2.2.2.2.1 [1] [0, 2, 3] rfl rfl rfl (by decide) (fun r w H locs hB hP hD hS => ?_)
  obtain ⟨rfl, rfl⟩ := hB
  have hP : va_P E.1 gk_cl [(h0, .inr (0, [.ref q1, .ref q2, .ref q7, .ref q8, .int 0, .null])), (g0, .inr (7, [.ref g1, .ref g5, .ref g6, .null, .null, .int 0, .int 0])), (g6, .inr (5, [.int 0, .ref E.2.2, .int 0])), (q7, .inr (5, [.int 0, .ref E.2.2, .int 0]))] H := hP
  have hD : va_D A [(h0, .inr (0, [.ref q1, .ref q2, .ref q7, .ref q8, .int 0, .null])), (g0, .inr (7, [.ref g1, .ref g5, .ref g6, .null, .null, .int 0, .int 0])), (g6, .inr (5, [.int 0, .ref E.2.2, .int 0])), (q7, .inr (5, [.int 0, .ref E.2.2, .int 0]))] := hD
  refine W.widen (k := 0) (n := 0) (by omega) (by omega) ?_
  refine W.eq (g2 := F0 m 58 ls [.int 0]) rfl ?_
  refine lv_iload_n hx hb d_Jt_shelve_58 rfl (lv_at hl 1 rfl) ?_
  refine lv_iadd hx hb d_Jt_shelve_59 ?_
  refine lv_topi (fun x9 ex9 => ?_)
  obtain rfl : x9 = (0 : Int32) := ex9.trans (by decide)
  refine lv_bipush (v := 12) hx hb d_Jt_shelve_60 (by decide) ?_
  refine lv_icmp_le (tgt := 67) hx hb d_Jt_shelve_62 (by decide) (fun _ => ?_) (fun c9 => absurd (by decide) c9)
  refine lv_iconst (v := 0) hx hb d_Jt_shelve_67 (by decide) ?_
  refine lv_istore (lv' := [(4, .int 0), (3, .int 0), (2, .ref g6), (0, .ref h0), (1, .ref g0)]) hx hb d_Jt_shelve_68 hl (by decide) rfl (fun ls hl => ?_)
  refine lv_iload hx hb d_Jt_shelve_70 (lv_at hl 0 rfl) ?_
  refine lv_aload_n hx hb d_Jt_shelve_72 rfl (lv_at hl 2 rfl) ?_
  refine gk_back (wr := [(h0, .inr (0, [.ref q1, .ref q2, .ref q7, .ref q8, .int 0, .null])), (g0, .inr (7, [.ref g1, .ref g5, .ref g6, .null, .null, .int 0, .int 0])), (q7, .inr (5, [.int 0, .ref E.2.2, .int 0]))]) (gk_runV (As := []) (rest := [.int 0]) (ci := 5) (q0 := 2) X (c_Al_size l E g6 H.size) ok_Al_size (Or.inl k_731) k_732 k_733 rfl rfl rfl hP hD hS [2] rfl rfl hl.1 rfl (Nat.le_of_ble_eq_true rfl) d_Jt_shelve_73 ⟨(Nat.le_of_ble_eq_true rfl), (Nat.le_of_ble_eq_true rfl)⟩ ⟨(Nat.le_of_ble_eq_true rfl), (Nat.le_of_ble_eq_true rfl)⟩) hP hD hS X.2.2.2.2.2.2.2.1 [2] [0, 1, 3] rfl rfl rfl (by decide) (fun r w H locs hB hP hD hS => ?_)
  obtain ⟨rfl, rfl⟩ := hB
  have hP : va_P E.1 gk_cl [(h0, .inr (0, [.ref q1, .ref q2, .ref q7, .ref q8, .int 0, .null])), (g0, .inr (7, [.ref g1, .ref g5, .ref g6, .null, .null, .int 0, .int 0])), (q7, .inr (5, [.int 0, .ref E.2.2, .int 0])), (g6, .inr (5, [.int 0, .ref E.2.2, .int 0]))] H := hP
  have hD : va_D A [(h0, .inr (0, [.ref q1, .ref q2, .ref q7, .ref q8, .int 0, .null])), (g0, .inr (7, [.ref g1, .ref g5, .ref g6, .null, .null, .int 0, .int 0])), (q7, .inr (5, [.int 0, .ref E.2.2, .int 0])), (g6, .inr (5, [.int 0, .ref E.2.2, .int 0]))] := hD
  refine W.widen (k := 0) (n := 0) (by omega) (by omega) ?_
  refine W.eq (g2 := F0 m 76 ls [.int 0, .int 0]) rfl ?_
  refine lv_icmp_ge (tgt := 141) hx hb d_Jt_shelve_76 (by decide) (fun _ => ?_) (fun c9 => absurd (by decide) c9)
  refine lv_iconst (v := 1) hx hb d_Jt_shelve_141 (by decide) ?_
  have hP9 := hP.sub (ws' := [(h0, .inr (0, [.ref q1, .ref q2, .ref q7, .ref q8, .int 0, .null])), (g0, .inr (7, [.ref g1, .ref g5, .ref g6, .null, .null, .int 0, .int 0])), (q7, .inr (5, [.int 0, .ref E.2.2, .int 0])), (g6, .inr (5, [.int 0, .ref E.2.2, .int 0]))]) [0, 1, 2, 3] rfl
  have hD9 := hD.sub (ws' := [(h0, .inr (0, [.ref q1, .ref q2, .ref q7, .ref q8, .int 0, .null])), (g0, .inr (7, [.ref g1, .ref g5, .ref g6, .null, .null, .int 0, .int 0])), (q7, .inr (5, [.int 0, .ref E.2.2, .int 0])), (g6, .inr (5, [.int 0, .ref E.2.2, .int 0]))]) [0, 1, 2, 3] (by decide) rfl
  refine W.widen (k := 0) (n := 0) (Nat.le_of_ble_eq_true rfl) (Nat.le_of_ble_eq_true rfl) ?_
  exact W.zret hx hb hr (by decide) (gk_q hP9 hD9 hS ⟨rfl, rfl⟩) hS.2.2 d_Jt_shelve_142

set_option maxHeartbeats 4000000 in
set_option maxRecDepth 100000 in
theorem c_Jt_read (l : Launch) (E : gk_E) (h0 : Nat) (q1 : Nat) (q2 : Nat) (q7 : Nat) (q8 : Nat) (q3 : Nat) (q4 : Nat) (q5 : Nat) (q6 : Nat) (sz : Nat) : gk_M l E y_Jt_read b_Jt_read 6 (some .int) 5 11 286 [.ref h0] [(h0, .inr (0, [.ref q1, .ref q2, .ref q7, .ref q8, .int 0, .null])), (q1, .inl (E.2.1 1, 3000, .inl (fun _ => 0))), (q2, .inr (1, [.ref q3, .ref q4, .ref q5, .ref q6, .int 0])), (q7, .inr (5, [.int 0, .ref E.2.2, .int 0]))] sz (fun r w => r = some (.int 0) ∧ w = []) := by
  refine gk_met (by decide) (Nat.le_of_ble_eq_true rfl) ?_
  intro p e s m below meth c A ls X hl hP hD hS
  have hx := X.1
  have hb := X.2.1
  have hown := X.2.2.2.1
  have hts := X.2.2.2.2.1
  have hZ := X.2.2.2.2.2.2.1
  have hr := X.2.2.2.2.2.2.2.2.1
  have hlocks : meth.locks = false := X.2.2.2.2.2.2.2.2.2.1
  have hl : lv_has ls 6 [(0, .ref h0)] := hl
  refine lv_aload_n hx hb d_Jt_read_0 rfl (lv_at hl 0 rfl) ?_
  refine gk_get (b := h0) (ci := 0) (v := .ref q2) X in_Jt hP 0 rfl rfl 1 (by decide) k_303 rfl d_Jt_read_1 ?_
  refine gk_back (wr := [(h0, .inr (0, [.ref q1, .ref q2, .ref q7, .ref q8, .int 0, .null])), (q1, .inl (E.2.1 1, 3000, .inl (fun _ => 0))), (q7, .inr (5, [.int 0, .ref E.2.2, .int 0]))]) (gk_runV (As := []) (rest := []) (ci := 1) (q0 := 2) X (c_Fa_clear l E q2 q3 q4 q5 q6 s.heap.size) ok_Fa_clear (Or.inl k_332) k_333 k_334 rfl rfl rfl hP hD hS [2] rfl rfl hl.1 rfl (Nat.le_of_ble_eq_true rfl) d_Jt_read_4 ⟨(Nat.le_of_ble_eq_true rfl), (Nat.le_of_ble_eq_true rfl)⟩ ⟨(Nat.le_of_ble_eq_true rfl), (Nat.le_of_ble_eq_true rfl)⟩) hP hD hS X.2.2.2.2.2.2.2.1 [2] [0, 1, 3] rfl rfl rfl (by decide) (fun r w H locs hB hP hD hS => ?_)
  obtain ⟨rfl, rfl⟩ := hB
  have hP : va_P E.1 gk_cl [(h0, .inr (0, [.ref q1, .ref q2, .ref q7, .ref q8, .int 0, .null])), (q1, .inl (E.2.1 1, 3000, .inl (fun _ => 0))), (q7, .inr (5, [.int 0, .ref E.2.2, .int 0])), (q2, .inr (1, [.ref q3, .ref q4, .ref q5, .ref q6, .int 0]))] H := hP
  have hD : va_D A [(h0, .inr (0, [.ref q1, .ref q2, .ref q7, .ref q8, .int 0, .null])), (q1, .inl (E.2.1 1, 3000, .inl (fun _ => 0))), (q7, .inr (5, [.int 0, .ref E.2.2, .int 0])), (q2, .inr (1, [.ref q3, .ref q4, .ref q5, .ref q6, .int 0]))] := hD
  refine W.widen (k := 0) (n := 0) (by omega) (by omega) ?_
  refine gk_new (ci := 7) (fs := df_Te) X in_Te t_Te t_Te_ok k_336 k_337 k_103 hP hD hS rfl df_Te_ok (Nat.le_of_ble_eq_true rfl) (Nat.le_of_ble_eq_true rfl) d_Jt_read_7 (fun q9 H hP hD hS => ?_)
  have hP : va_P E.1 gk_cl [(h0, .inr (0, [.ref q1, .ref q2, .ref q7, .ref q8, .int 0, .null])), (q1, .inl (E.2.1 1, 3000, .inl (fun _ => 0))), (q7, .inr (5, [.int 0, .ref E.2.2, .int 0])), (q2, .inr (1, [.ref q3, .ref q4, .ref q5, .ref q6, .int 0])), (q9, .inr (7, [.null, .null, .null, .null, .null, .int 0, .int 0]))] H := hP
  have hD : va_D A [(h0, .inr (0, [.ref q1, .ref q2, .ref q7, .ref q8, .int 0, .null])), (q1, .inl (E.2.1 1, 3000, .inl (fun _ => 0))), (q7, .inr (5, [.int 0, .ref E.2.2, .int 0])), (q2, .inr (1, [.ref q3, .ref q4, .ref q5, .ref q6, .int 0])), (q9, .inr (7, [.null, .null, .null, .null, .null, .int 0, .int 0]))] := hD
  refine W.widen (k := 1) (n := 7) (by omega) (by omega) ?_
  refine lv_dup hx hb d_Jt_read_10 rfl ?_
  refine gk_back (wr := [(h0, .inr (0, [.ref q1, .ref q2, .ref q7, .ref q8, .int 0, .null])), (q1, .inl (E.2.1 1, 3000, .inl (fun _ => 0))), (q7, .inr (5, [.int 0, .ref E.2.2, .int 0])), (q2, .inr (1, [.ref q3, .ref q4, .ref q5, .ref q6, .int 0]))]) (gk_runI (As := []) (rest := [.ref q9]) X (c_Te_init l E q9 H.size) ok_Te_init (Or.inr nk_4) k_339 rfl rfl hP hD hS [4] rfl rfl hl.1 rfl (Nat.le_of_ble_eq_true rfl) d_Jt_read_11 ⟨(Nat.le_of_ble_eq_true rfl), (Nat.le_of_ble_eq_true rfl)⟩ ⟨(Nat.le_of_ble_eq_true rfl), (Nat.le_of_ble_eq_true rfl)⟩) hP hD hS X.2.2.2.2.2.2.2.1 [4] [0, 1, 2, 3] rfl rfl rfl (by decide) (fun r w H locs hB hP hD hS => ?_)
  obtain ⟨q10, q11, q12, rfl, rfl⟩ := hB
  have hP : va_P E.1 gk_cl [(h0, .inr (0, [.ref q1, .ref q2, .ref q7, .ref q8, .int 0, .null])), (q1, .inl (E.2.1 1, 3000, .inl (fun _ => 0))), (q7, .inr (5, [.int 0, .ref E.2.2, .int 0])), (q2, .inr (1, [.ref q3, .ref q4, .ref q5, .ref q6, .int 0])), (q9, .inr (7, [.ref q10, .ref q11, .ref q12, .null, .null, .int 0, .int 0])), (q11, .inr (5, [.int 0, .ref E.2.2, .int 0])), (q12, .inr (5, [.int 0, .ref E.2.2, .int 0]))] H := hP
  have hD : va_D A [(h0, .inr (0, [.ref q1, .ref q2, .ref q7, .ref q8, .int 0, .null])), (q1, .inl (E.2.1 1, 3000, .inl (fun _ => 0))), (q7, .inr (5, [.int 0, .ref E.2.2, .int 0])), (q2, .inr (1, [.ref q3, .ref q4, .ref q5, .ref q6, .int 0])), (q9, .inr (7, [.ref q10, .ref q11, .ref q12, .null, .null, .int 0, .int 0])), (q11, .inr (5, [.int 0, .ref E.2.2, .int 0])), (q12, .inr (5, [.int 0, .ref E.2.2, .int 0]))] := hD
  refine W.widen (k := 7) (n := 273) (by omega) (by omega) ?_
  refine lv_astore_n (lv' := [(1, .ref q9), (0, .ref h0)]) hx hb d_Jt_read_14 rfl hl (by decide) rfl (fun ls hl => ?_)
  refine gk_new (ci := 8) (fs := df_Ln) X in_Ln t_Ln t_Ln_ok k_368 k_369 k_104 hP hD hS rfl df_Ln_ok (Nat.le_of_ble_eq_true rfl) (Nat.le_of_ble_eq_true rfl) d_Jt_read_15 (fun q13 H hP hD hS => ?_)
  have hP : va_P E.1 gk_cl [(h0, .inr (0, [.ref q1, .ref q2, .ref q7, .ref q8, .int 0, .null])), (q1, .inl (E.2.1 1, 3000, .inl (fun _ => 0))), (q7, .inr (5, [.int 0, .ref E.2.2, .int 0])), (q2, .inr (1, [.ref q3, .ref q4, .ref q5, .ref q6, .int 0])), (q9, .inr (7, [.ref q10, .ref q11, .ref q12, .null, .null, .int 0, .int 0])), (q11, .inr (5, [.int 0, .ref E.2.2, .int 0])), (q12, .inr (5, [.int 0, .ref E.2.2, .int 0])), (q13, .inr (8, [.null, .null, .null, .int 0]))] H := hP
  have hD : va_D A [(h0, .inr (0, [.ref q1, .ref q2, .ref q7, .ref q8, .int 0, .null])), (q1, .inl (E.2.1 1, 3000, .inl (fun _ => 0))), (q7, .inr (5, [.int 0, .ref E.2.2, .int 0])), (q2, .inr (1, [.ref q3, .ref q4, .ref q5, .ref q6, .int 0])), (q9, .inr (7, [.ref q10, .ref q11, .ref q12, .null, .null, .int 0, .int 0])), (q11, .inr (5, [.int 0, .ref E.2.2, .int 0])), (q12, .inr (5, [.int 0, .ref E.2.2, .int 0])), (q13, .inr (8, [.null, .null, .null, .int 0]))] := hD
  refine W.widen (k := 8) (n := 277) (by omega) (by omega) ?_
  refine lv_dup hx hb d_Jt_read_18 rfl ?_
  refine lv_aload_n hx hb d_Jt_read_19 rfl (lv_at hl 1 rfl) ?_
  refine gk_get (b := h0) (ci := 0) (v := .ref q1) X in_Jt hP 0 rfl rfl 0 (by decide) k_302 rfl d_Jt_read_20 ?_
  refine lv_aload_n hx hb d_Jt_read_23 rfl (lv_at hl 1 rfl) ?_
  refine gk_get (b := h0) (ci := 0) (v := .int 0) X in_Jt hP 0 rfl rfl 4 (by decide) k_306 rfl d_Jt_read_24 ?_
  refine gk_back (wr := [(h0, .inr (0, [.ref q1, .ref q2, .ref q7, .ref q8, .int 0, .null])), (q7, .inr (5, [.int 0, .ref E.2.2, .int 0])), (q2, .inr (1, [.ref q3, .ref q4, .ref q5, .ref q6, .int 0])), (q9, .inr (7, [.ref q10, .ref q11, .ref q12, .null, .null, .int 0, .int 0])), (q11, .inr (5, [.int 0, .ref E.2.2, .int 0])), (q12, .inr (5, [.int 0, .ref E.2.2, .int 0]))]) (gk_runI (As := [.ref q1, .int 0]) (rest := [.ref q13]) X (c_Ln_init l E q13 q1 H.size) ok_Ln_init (Or.inl k_370) k_371 rfl rfl hP hD hS [7, 1] rfl rfl hl.1 rfl (Nat.le_of_ble_eq_true rfl) d_Jt_read_27 ⟨(Nat.le_of_ble_eq_true rfl), (Nat.le_of_ble_eq_true rfl)⟩ ⟨(Nat.le_of_ble_eq_true rfl), (Nat.le_of_ble_eq_true rfl)⟩) hP hD hS X.2.2.2.2.2.2.2.1 [7, 1] [0, 2, 3, 4, 5, 6] rfl rfl rfl (by decide) (fun r w H locs hB hP hD hS => ?_)
  obtain ⟨q14, q15, rfl, rfl⟩ := hB
  have hP : va_P E.1 gk_cl [(h0, .inr (0, [.ref q1, .ref q2, .ref q7, .ref q8, .int 0, .null])), (q7, .inr (5, [.int 0, .ref E.2.2, .int 0])), (q2, .inr (1, [.ref q3, .ref q4, .ref q5, .ref q6, .int 0])), (q9, .inr (7, [.ref q10, .ref q11, .ref q12, .null, .null, .int 0, .int 0])), (q11, .inr (5, [.int 0, .ref E.2.2, .int 0])), (q12, .inr (5, [.int 0, .ref E.2.2, .int 0])), (q13, .inr (8, [.ref q1, .ref q14, .ref q15, .int 0]))] H := hP
  have hD : va_D A [(h0, .inr (0, [.ref q1, .ref q2, .ref q7, .ref q8, .int 0, .null])), (q7, .inr (5, [.int 0, .ref E.2.2, .int 0])), (q2, .inr (1, [.ref q3, .ref q4, .ref q5, .ref q6, .int 0])), (q9, .inr (7, [.ref q10, .ref q11, .ref q12, .null, .null, .int 0, .int 0])), (q11, .inr (5, [.int 0, .ref E.2.2, .int 0])), (q12, .inr (5, [.int 0, .ref E.2.2, .int 0])), (q13, .inr (8, [.ref q1, .ref q14, .ref q15, .int 0]))] := hD
  refine W.widen (k := 10) (n := 277) (by omega) (by omega) ?_
  refine lv_astore_n (lv' := [(2, .ref q13), (1, .ref q9), (0, .ref h0)]) hx hb d_Jt_read_30 rfl hl (by decide) rfl (fun ls hl => ?_)
  refine gk_new (ci := 9) (fs := df_Re) X in_Re t_Re t_Re_ok k_393 k_394 k_106 hP hD hS rfl df_Re_ok (Nat.le_of_ble_eq_true rfl) (Nat.le_of_ble_eq_true rfl) d_Jt_read_31 (fun q16 H hP hD hS => ?_)
  have hP : va_P E.1 gk_cl [(h0, .inr (0, [.ref q1, .ref q2, .ref q7, .ref q8, .int 0, .null])), (q7, .inr (5, [.int 0, .ref E.2.2, .int 0])), (q2, .inr (1, [.ref q3, .ref q4, .ref q5, .ref q6, .int 0])), (q9, .inr (7, [.ref q10, .ref q11, .ref q12, .null, .null, .int 0, .int 0])), (q11, .inr (5, [.int 0, .ref E.2.2, .int 0])), (q12, .inr (5, [.int 0, .ref E.2.2, .int 0])), (q13, .inr (8, [.ref q1, .ref q14, .ref q15, .int 0])), (q16, .inr (9, [.null, .null, .null, .null, .int 0, .int 0, .null, .null, .int 0]))] H := hP
  have hD : va_D A [(h0, .inr (0, [.ref q1, .ref q2, .ref q7, .ref q8, .int 0, .null])), (q7, .inr (5, [.int 0, .ref E.2.2, .int 0])), (q2, .inr (1, [.ref q3, .ref q4, .ref q5, .ref q6, .int 0])), (q9, .inr (7, [.ref q10, .ref q11, .ref q12, .null, .null, .int 0, .int 0])), (q11, .inr (5, [.int 0, .ref E.2.2, .int 0])), (q12, .inr (5, [.int 0, .ref E.2.2, .int 0])), (q13, .inr (8, [.ref q1, .ref q14, .ref q15, .int 0])), (q16, .inr (9, [.null, .null, .null, .null, .int 0, .int 0, .null, .null, .int 0]))] := hD
  refine W.widen (k := 11) (n := 286) (by omega) (by omega) ?_
  refine lv_dup hx hb d_Jt_read_34 rfl ?_
  refine lv_aload_n hx hb d_Jt_read_35 rfl (lv_at hl 0 rfl) ?_
  refine lv_aload_n hx hb d_Jt_read_36 rfl (lv_at hl 1 rfl) ?_
  refine lv_aload_n hx hb d_Jt_read_37 rfl (lv_at hl 2 rfl) ?_
  refine gk_get (b := h0) (ci := 0) (v := .ref q2) X in_Jt hP 0 rfl rfl 1 (by decide) k_303 rfl d_Jt_read_38 ?_
  refine gk_back (wr := [(h0, .inr (0, [.ref q1, .ref q2, .ref q7, .ref q8, .int 0, .null])), (q7, .inr (5, [.int 0, .ref E.2.2, .int 0])), (q2, .inr (1, [.ref q3, .ref q4, .ref q5, .ref q6, .int 0])), (q11, .inr (5, [.int 0, .ref E.2.2, .int 0])), (q12, .inr (5, [.int 0, .ref E.2.2, .int 0])), (q13, .inr (8, [.ref q1, .ref q14, .ref q15, .int 0]))]) (gk_runI (As := [.ref q13, .ref q9, .ref q2]) (rest := [.ref q16]) X (c_Re_init l E q16 q13 q2 q10 q11 q12 q9 H.size) ok_Re_init (Or.inl k_395) k_396 rfl rfl hP hD hS [7, 3] rfl rfl hl.1 rfl (Nat.le_of_ble_eq_true rfl) d_Jt_read_41 ⟨(Nat.le_of_ble_eq_true rfl), (Nat.le_of_ble_eq_true rfl)⟩ ⟨(Nat.le_of_ble_eq_true rfl), (Nat.le_of_ble_eq_true rfl)⟩) hP hD hS X.2.2.2.2.2.2.2.1 [7, 3] [0, 1, 2, 4, 5, 6] rfl rfl rfl (by decide) (fun r w H locs hB hP hD hS => ?_)
  obtain ⟨rfl, rfl⟩ := hB
  have hP : va_P E.1 gk_cl [(h0, .inr (0, [.ref q1, .ref q2, .ref q7, .ref q8, .int 0, .null])), (q7, .inr (5, [.int 0, .ref E.2.2, .int 0])), (q2, .inr (1, [.ref q3, .ref q4, .ref q5, .ref q6, .int 0])), (q11, .inr (5, [.int 0, .ref E.2.2, .int 0])), (q12, .inr (5, [.int 0, .ref E.2.2, .int 0])), (q13, .inr (8, [.ref q1, .ref q14, .ref q15, .int 0])), (q9, .inr (7, [.ref q10, .ref q11, .ref q12, .null, .null, .int 0, .int 0]))] H := hP
  have hD : va_D A [(h0, .inr (0, [.ref q1, .ref q2, .ref q7, .ref q8, .int 0, .null])), (q7, .inr (5, [.int 0, .ref E.2.2, .int 0])), (q2, .inr (1, [.ref q3, .ref q4, .ref q5, .ref q6, .int 0])), (q11, .inr (5, [.int 0, .ref E.2.2, .int 0])), (q12, .inr (5, [.int 0, .ref E.2.2, .int 0])), (q13, .inr (8, [.ref q1, .ref q14, .ref q15, .int 0])), (q9, .inr (7, [.ref q10, .ref q11, .ref q12, .null, .null, .int 0, .int 0]))] := hD
  refine W.widen (k := 11) (n := 286) (by omega) (by omega) ?_
  refine lv_astore_n (lv' := [(3, .ref q16), (2, .ref q13), (1, .ref q9), (0, .ref h0)]) hx hb d_Jt_read_44 rfl hl (by decide) rfl (fun ls hl => ?_)
  refine lv_iconst (v := 1) hx hb d_Jt_read_45 (by decide) ?_
  refine lv_istore (lv' := [(4, .int 1), (3, .ref q16), (2, .ref q13), (1, .ref q9), (0, .ref h0)]) hx hb d_Jt_read_46 hl (by decide) rfl (fun ls hl => ?_)
  refine lv_iconst (v := 0) hx hb d_Jt_read_48 (by decide) ?_
  refine lv_istore (lv' := [(5, .int 0), (4, .int 1), (3, .ref q16), (2, .ref q13), (1, .ref q9), (0, .ref h0)]) hx hb d_Jt_read_49 hl (by decide) rfl (fun ls hl => ?_)
  refine lv_iload hx hb d_Jt_read_51 (lv_at hl 0 rfl) ?_
  refine lv_aload_n hx hb d_Jt_read_53 rfl (lv_at hl 3 rfl) ?_
  refine gk_back (wr := [(h0, .inr (0, [.ref q1, .ref q2, .ref q7, .ref q8, .int 0, .null])), (q7, .inr (5, [.int 0, .ref E.2.2, .int 0])), (q2, .inr (1, [.ref q3, .ref q4, .ref q5, .ref q6, .int 0])), (q11, .inr (5, [.int 0, .ref E.2.2, .int 0])), (q12, .inr (5, [.int 0, .ref E.2.2, .int 0])), (q9, .inr (7, [.ref q10, .ref q11, .ref q12, .null, .null, .int 0, .int 0]))]) (gk_runV (As := []) (rest := [.int 0]) (ci := 8) (q0 := 5) X (c_Ln_total l E q13 q14 q15 q1 H.size) ok_Ln_total (Or.inl k_431) k_432 k_433 rfl rfl rfl hP hD hS [5] rfl rfl hl.1 rfl (Nat.le_of_ble_eq_true rfl) d_Jt_read_54 ⟨(Nat.le_of_ble_eq_true rfl), (Nat.le_of_ble_eq_true rfl)⟩ ⟨(Nat.le_of_ble_eq_true rfl), (Nat.le_of_ble_eq_true rfl)⟩) hP hD hS X.2.2.2.2.2.2.2.1 [5] [0, 1, 2, 3, 4, 6] rfl rfl rfl (by decide) (fun r w H locs hB hP hD hS => ?_)
  obtain ⟨rfl, rfl⟩ := hB
  have hP : va_P E.1 gk_cl [(h0, .inr (0, [.ref q1, .ref q2, .ref q7, .ref q8, .int 0, .null])), (q7, .inr (5, [.int 0, .ref E.2.2, .int 0])), (q2, .inr (1, [.ref q3, .ref q4, .ref q5, .ref q6, .int 0])), (q11, .inr (5, [.int 0, .ref E.2.2, .int 0])), (q12, .inr (5, [.int 0, .ref E.2.2, .int 0])), (q9, .inr (7, [.ref q10, .ref q11, .ref q12, .null, .null, .int 0, .int 0])), (q13, .inr (8, [.ref q1, .ref q14, .ref q15, .int 0]))] H := hP
  have hD : va_D A [(h0, .inr (0, [.ref q1, .ref q2, .ref q7, .ref q8, .int 0, .null])), (q7, .inr (5, [.int 0, .ref E.2.2, .int 0])), (q2, .inr (1, [.ref q3, .ref q4, .ref q5, .ref q6, .int 0])), (q11, .inr (5, [.int 0, .ref E.2.2, .int 0])), (q12, .inr (5, [.int 0, .ref E.2.2, .int 0])), (q9, .inr (7, [.ref q10, .ref q11, .ref q12, .null, .null, .int 0, .int 0])), (q13, .inr (8, [.ref q1, .ref q14, .ref q15, .int 0]))] := hD
  refine W.widen (k := 11) (n := 286) (by omega) (by omega) ?_
  refine W.eq (g2 := F0 m 57 ls [.int 0, .int 0]) rfl ?_
  refine lv_icmp_ge (tgt := 87) hx hb d_Jt_read_57 (by decide) (fun _ => ?_) (fun c9 => absurd (by decide) c9)
  refine lv_aload_n hx hb d_Jt_read_87 rfl (lv_at hl 4 rfl) ?_
  refine gk_back (wr := [(h0, .inr (0, [.ref q1, .ref q2, .ref q7, .ref q8, .int 0, .null])), (q7, .inr (5, [.int 0, .ref E.2.2, .int 0])), (q2, .inr (1, [.ref q3, .ref q4, .ref q5, .ref q6, .int 0])), (q11, .inr (5, [.int 0, .ref E.2.2, .int 0])), (q12, .inr (5, [.int 0, .ref E.2.2, .int 0])), (q13, .inr (8, [.ref q1, .ref q14, .ref q15, .int 0]))]) (gk_runV (As := []) (rest := []) (ci := 7) (q0 := 5) X (c_Te_isOpen l E q9 q10 q11 q12 H.size) ok_Te_isOpen (Or.inl k_894) k_895 k_896 rfl rfl rfl hP hD hS [5] rfl rfl hl.1 rfl (Nat.le_of_ble_eq_true rfl) d_Jt_read_88 ⟨(Nat.le_of_ble_eq_true rfl), (Nat.le_of_ble_eq_true rfl)⟩ ⟨(Nat.le_of_ble_eq_true rfl), (Nat.le_of_ble_eq_true rfl)⟩) hP hD hS X.2.2.2.2.2.2.2.1 [5] [0, 1, 2, 3, 4, 6] rfl rfl rfl (by decide) (fun r w H locs hB hP hD hS => ?_)
  obtain ⟨rfl, rfl⟩ := hB
  have hP : va_P E.1 gk_cl [(h0, .inr (0, [.ref q1, .ref q2, .ref q7, .ref q8, .int 0, .null])), (q7, .inr (5, [.int 0, .ref E.2.2, .int 0])), (q2, .inr (1, [.ref q3, .ref q4, .ref q5, .ref q6, .int 0])), (q11, .inr (5, [.int 0, .ref E.2.2, .int 0])), (q12, .inr (5, [.int 0, .ref E.2.2, .int 0])), (q13, .inr (8, [.ref q1, .ref q14, .ref q15, .int 0])), (q9, .inr (7, [.ref q10, .ref q11, .ref q12, .null, .null, .int 0, .int 0]))] H := hP
  have hD : va_D A [(h0, .inr (0, [.ref q1, .ref q2, .ref q7, .ref q8, .int 0, .null])), (q7, .inr (5, [.int 0, .ref E.2.2, .int 0])), (q2, .inr (1, [.ref q3, .ref q4, .ref q5, .ref q6, .int 0])), (q11, .inr (5, [.int 0, .ref E.2.2, .int 0])), (q12, .inr (5, [.int 0, .ref E.2.2, .int 0])), (q13, .inr (8, [.ref q1, .ref q14, .ref q15, .int 0])), (q9, .inr (7, [.ref q10, .ref q11, .ref q12, .null, .null, .int 0, .int 0]))] := hD
  refine W.widen (k := 11) (n := 286) (by omega) (by omega) ?_
  refine W.eq (g2 := F0 m 91 ls [.int 0]) rfl ?_
  refine lv_if_eq (tgt := 108) hx hb d_Jt_read_91 (by decide) (fun _ => ?_) (fun c9 => absurd (by decide) c9)
  refine lv_aload_n hx hb d_Jt_read_108 rfl (lv_at hl 5 rfl) ?_
  refine lv_iconst (v := 0) hx hb d_Jt_read_109 (by decide) ?_
  refine gk_put (b := h0) (ci := 0) (v := .int 0) (ty := t_Jt 4) (ws' := [(h0, .inr (0, [.ref q1, .ref q2, .ref q7, .ref q8, .int 0, .null])), (q7, .inr (5, [.int 0, .ref E.2.2, .int 0])), (q2, .inr (1, [.ref q3, .ref q4, .ref q5, .ref q6, .int 0])), (q11, .inr (5, [.int 0, .ref E.2.2, .int 0])), (q12, .inr (5, [.int 0, .ref E.2.2, .int 0])), (q13, .inr (8, [.ref q1, .ref q14, .ref q15, .int 0])), (q9, .inr (7, [.ref q10, .ref q11, .ref q12, .null, .null, .int 0, .int 0]))]) X in_Jt t_Jt t_Jt_ok n_Jt hP hD hS 0 rfl rfl 4 (by decide) k_306 (Or.inl rfl) (t_Jt_ok 4 (by decide)) rfl rfl (Nat.le_of_ble_eq_true rfl) d_Jt_read_110 rfl (fun H locs hP hD hS => ?_)
  refine lv_aload_n hx hb d_Jt_read_113 rfl (lv_at hl 5 rfl) ?_
  refine lv_null hx hb d_Jt_read_114 ?_
  refine gk_put (b := h0) (ci := 0) (v := .null) (ty := t_Jt 5) (ws' := [(h0, .inr (0, [.ref q1, .ref q2, .ref q7, .ref q8, .int 0, .null])), (q7, .inr (5, [.int 0, .ref E.2.2, .int 0])), (q2, .inr (1, [.ref q3, .ref q4, .ref q5, .ref q6, .int 0])), (q11, .inr (5, [.int 0, .ref E.2.2, .int 0])), (q12, .inr (5, [.int 0, .ref E.2.2, .int 0])), (q13, .inr (8, [.ref q1, .ref q14, .ref q15, .int 0])), (q9, .inr (7, [.ref q10, .ref q11, .ref q12, .null, .null, .int 0, .int 0]))]) X in_Jt t_Jt t_Jt_ok n_Jt hP hD hS 0 rfl rfl 5 (by decide) k_307 (Or.inl rfl) (t_Jt_ok 5 (by decide)) rfl rfl (Nat.le_of_ble_eq_true rfl) d_Jt_read_115 rfl (fun H locs hP hD hS => ?_)
  refine lv_aload_n hx hb d_Jt_read_118 rfl (lv_at hl 5 rfl) ?_
  refine gk_get (b := h0) (ci := 0) (v := .ref q2) X in_Jt hP 0 rfl rfl 1 (by decide) k_303 rfl d_Jt_read_119 ?_
  refine gk_back (wr := [(h0, .inr (0, [.ref q1, .ref q2, .ref q7, .ref q8, .int 0, .null])), (q7, .inr (5, [.int 0, .ref E.2.2, .int 0])), (q11, .inr (5, [.int 0, .ref E.2.2, .int 0])), (q12, .inr (5, [.int 0, .ref E.2.2, .int 0])), (q13, .inr (8, [.ref q1, .ref q14, .ref q15, .int 0])), (q9, .inr (7, [.ref q10, .ref q11, .ref q12, .null, .null, .int 0, .int 0]))]) (gk_runV (As := []) (rest := []) (ci := 1) (q0 := 2) X (c_Fa_total l E q2 q3 q4 q5 q6 H.size) ok_Fa_total (Or.inl k_899) k_900 k_901 rfl rfl rfl hP hD hS [2] rfl rfl hl.1 rfl (Nat.le_of_ble_eq_true rfl) d_Jt_read_122 ⟨(Nat.le_of_ble_eq_true rfl), (Nat.le_of_ble_eq_true rfl)⟩ ⟨(Nat.le_of_ble_eq_true rfl), (Nat.le_of_ble_eq_true rfl)⟩) hP hD hS X.2.2.2.2.2.2.2.1 [2] [0, 1, 3, 4, 5, 6] rfl rfl rfl (by decide) (fun r w H locs hB hP hD hS => ?_)
  obtain ⟨rfl, rfl⟩ := hB
  have hP : va_P E.1 gk_cl [(h0, .inr (0, [.ref q1, .ref q2, .ref q7, .ref q8, .int 0, .null])), (q7, .inr (5, [.int 0, .ref E.2.2, .int 0])), (q11, .inr (5, [.int 0, .ref E.2.2, .int 0])), (q12, .inr (5, [.int 0, .ref E.2.2, .int 0])), (q13, .inr (8, [.ref q1, .ref q14, .ref q15, .int 0])), (q9, .inr (7, [.ref q10, .ref q11, .ref q12, .null, .null, .int 0, .int 0])), (q2, .inr (1, [.ref q3, .ref q4, .ref q5, .ref q6, .int 0]))] H := hP
  have hD : va_D A [(h0, .inr (0, [.ref q1, .ref q2, .ref q7, .ref q8, .int 0, .null])), (q7, .inr (5, [.int 0, .ref E.2.2, .int 0])), (q11, .inr (5, [.int 0, .ref E.2.2, .int 0])), (q12, .inr (5, [.int 0, .ref E.2.2, .int 0])), (q13, .inr (8, [.ref q1, .ref q14, .ref q15, .int 0])), (q9, .inr (7, [.ref q10, .ref q11, .ref q12, .null, .null, .int 0, .int 0])), (q2, .inr (1, [.ref q3, .ref q4, .ref q5, .ref q6, .int 0]))] := hD
  refine W.widen (k := 11) (n := 286) (by omega) (by omega) ?_
  refine W.eq (g2 := F0 m 125 ls [.int 0]) rfl ?_
  refine lv_if_le (tgt := 138) hx hb d_Jt_read_125 (by decide) (fun _ => ?_) (fun c9 => absurd (by decide) c9)
  refine lv_aload_n hx hb d_Jt_read_138 rfl (lv_at hl 4 rfl) ?_
  refine gk_back (wr := [(h0, .inr (0, [.ref q1, .ref q2, .ref q7, .ref q8, .int 0, .null])), (q7, .inr (5, [.int 0, .ref E.2.2, .int 0])), (q11, .inr (5, [.int 0, .ref E.2.2, .int 0])), (q12, .inr (5, [.int 0, .ref E.2.2, .int 0])), (q13, .inr (8, [.ref q1, .ref q14, .ref q15, .int 0])), (q2, .inr (1, [.ref q3, .ref q4, .ref q5, .ref q6, .int 0]))]) (gk_runV (As := []) (rest := []) (ci := 7) (q0 := 5) X (c_Te_job l E q9 q10 q11 q12 H.size) ok_Te_job (Or.inl k_903) k_904 k_905 rfl rfl rfl hP hD hS [5] rfl rfl hl.1 rfl (Nat.le_of_ble_eq_true rfl) d_Jt_read_139 ⟨(Nat.le_of_ble_eq_true rfl), (Nat.le_of_ble_eq_true rfl)⟩ ⟨(Nat.le_of_ble_eq_true rfl), (Nat.le_of_ble_eq_true rfl)⟩) hP hD hS X.2.2.2.2.2.2.2.1 [5] [0, 1, 2, 3, 4, 6] rfl rfl rfl (by decide) (fun r w H locs hB hP hD hS => ?_)
  obtain ⟨rfl, rfl⟩ := hB
  have hP : va_P E.1 gk_cl [(h0, .inr (0, [.ref q1, .ref q2, .ref q7, .ref q8, .int 0, .null])), (q7, .inr (5, [.int 0, .ref E.2.2, .int 0])), (q11, .inr (5, [.int 0, .ref E.2.2, .int 0])), (q12, .inr (5, [.int 0, .ref E.2.2, .int 0])), (q13, .inr (8, [.ref q1, .ref q14, .ref q15, .int 0])), (q2, .inr (1, [.ref q3, .ref q4, .ref q5, .ref q6, .int 0])), (q9, .inr (7, [.ref q10, .ref q11, .ref q12, .null, .null, .int 0, .int 0]))] H := hP
  have hD : va_D A [(h0, .inr (0, [.ref q1, .ref q2, .ref q7, .ref q8, .int 0, .null])), (q7, .inr (5, [.int 0, .ref E.2.2, .int 0])), (q11, .inr (5, [.int 0, .ref E.2.2, .int 0])), (q12, .inr (5, [.int 0, .ref E.2.2, .int 0])), (q13, .inr (8, [.ref q1, .ref q14, .ref q15, .int 0])), (q2, .inr (1, [.ref q3, .ref q4, .ref q5, .ref q6, .int 0])), (q9, .inr (7, [.ref q10, .ref q11, .ref q12, .null, .null, .int 0, .int 0]))] := hD
  refine W.widen (k := 11) (n := 286) (by omega) (by omega) ?_
  refine W.eq (g2 := F0 m 142 ls [.null]) rfl ?_
  refine lv_ifnonnullN hx hb d_Jt_read_142 ?_
  refine lv_aload_n hx hb d_Jt_read_145 rfl (lv_at hl 5 rfl) ?_
  refine lv_aload_n hx hb d_Jt_read_146 rfl (lv_at hl 4 rfl) ?_
  refine gk_back (wr := [(q11, .inr (5, [.int 0, .ref E.2.2, .int 0])), (q13, .inr (8, [.ref q1, .ref q14, .ref q15, .int 0])), (q2, .inr (1, [.ref q3, .ref q4, .ref q5, .ref q6, .int 0]))]) (gk_runV (As := [.ref q9]) (rest := []) (ci := 0) (q0 := 0) X (c_Jt_shelve l E h0 q1 q2 q7 q8 q9 q10 q11 q12 H.size) ok_Jt_shelve (Or.inl k_907) k_909 k_19 rfl rfl rfl hP hD hS [0, 1, 6, 3] rfl rfl hl.1 rfl (Nat.le_of_ble_eq_true rfl) d_Jt_read_147 ⟨(Nat.le_of_ble_eq_true rfl), (Nat.le_of_ble_eq_true rfl)⟩ ⟨(Nat.le_of_ble_eq_true rfl), (Nat.le_of_ble_eq_true rfl)⟩) hP hD hS X.2.2.2.2.2.2.2.1 [0, 1, 6, 3] [2, 4, 5] rfl rfl rfl (by decide) (fun r w H locs hB hP hD hS => ?_)
  obtain ⟨rfl, rfl⟩ := hB
  have hP : va_P E.1 gk_cl [(q11, .inr (5, [.int 0, .ref E.2.2, .int 0])), (q13, .inr (8, [.ref q1, .ref q14, .ref q15, .int 0])), (q2, .inr (1, [.ref q3, .ref q4, .ref q5, .ref q6, .int 0])), (h0, .inr (0, [.ref q1, .ref q2, .ref q7, .ref q8, .int 0, .null])), (q9, .inr (7, [.ref q10, .ref q11, .ref q12, .null, .null, .int 0, .int 0])), (q7, .inr (5, [.int 0, .ref E.2.2, .int 0])), (q12, .inr (5, [.int 0, .ref E.2.2, .int 0]))] H := hP
  have hD : va_D A [(q11, .inr (5, [.int 0, .ref E.2.2, .int 0])), (q13, .inr (8, [.ref q1, .ref q14, .ref q15, .int 0])), (q2, .inr (1, [.ref q3, .ref q4, .ref q5, .ref q6, .int 0])), (h0, .inr (0, [.ref q1, .ref q2, .ref q7, .ref q8, .int 0, .null])), (q9, .inr (7, [.ref q10, .ref q11, .ref q12, .null, .null, .int 0, .int 0])), (q7, .inr (5, [.int 0, .ref E.2.2, .int 0])), (q12, .inr (5, [.int 0, .ref E.2.2, .int 0]))] := hD
  refine W.widen (k := 11) (n := 286) (by omega) (by omega) ?_
  refine W.eq (g2 := F0 m 150 ls [.int 1]) rfl ?_
  refine lv_if_ne (tgt := 155) hx hb d_Jt_read_150 (by decide) (fun _ => ?_) (fun c9 => absurd c9 (by decide))
  refine lv_aload_n hx hb d_Jt_read_155 rfl (lv_at hl 5 rfl) ?_
  refine lv_aload_n hx hb d_Jt_read_156 rfl (lv_at hl 4 rfl) ?_
  refine gk_put (b := h0) (ci := 0) (v := .ref q9) (ty := t_Jt 5) (ws' := [(q11, .inr (5, [.int 0, .ref E.2.2, .int 0])), (q13, .inr (8, [.ref q1, .ref q14, .ref q15, .int 0])), (q2, .inr (1, [.ref q3, .ref q4, .ref q5, .ref q6, .int 0])), (h0, .inr (0, [.ref q1, .ref q2, .ref q7, .ref q8, .int 0, .ref q9])), (q9, .inr (7, [.ref q10, .ref q11, .ref q12, .null, .null, .int 0, .int 0])), (q7, .inr (5, [.int 0, .ref E.2.2, .int 0])), (q12, .inr (5, [.int 0, .ref E.2.2, .int 0]))]) X in_Jt t_Jt t_Jt_ok n_Jt hP hD hS 3 rfl rfl 5 (by decide) k_307 (Or.inl rfl) (t_Jt_ok 5 (by decide)) rfl rfl (Nat.le_of_ble_eq_true rfl) d_Jt_read_157 rfl (fun H locs hP hD hS => ?_)
  refine lv_aload_n hx hb d_Jt_read_160 rfl (lv_at hl 4 rfl) ?_
  refine gk_back (wr := [(q13, .inr (8, [.ref q1, .ref q14, .ref q15, .int 0])), (q2, .inr (1, [.ref q3, .ref q4, .ref q5, .ref q6, .int 0])), (h0, .inr (0, [.ref q1, .ref q2, .ref q7, .ref q8, .int 0, .ref q9])), (q7, .inr (5, [.int 0, .ref E.2.2, .int 0])), (q12, .inr (5, [.int 0, .ref E.2.2, .int 0]))]) (gk_runV (As := []) (rest := []) (ci := 7) (q0 := 4) X (c_Te_size l E q9 q10 q11 q12 H.size) ok_Te_size (Or.inl k_921) k_922 k_923 rfl rfl rfl hP hD hS [4, 0] rfl rfl hl.1 rfl (Nat.le_of_ble_eq_true rfl) d_Jt_read_161 ⟨(Nat.le_of_ble_eq_true rfl), (Nat.le_of_ble_eq_true rfl)⟩ ⟨(Nat.le_of_ble_eq_true rfl), (Nat.le_of_ble_eq_true rfl)⟩) hP hD hS X.2.2.2.2.2.2.2.1 [4, 0] [1, 2, 3, 5, 6] rfl rfl rfl (by decide) (fun r w H locs hB hP hD hS => ?_)
  obtain ⟨rfl, rfl⟩ := hB
  have hP : va_P E.1 gk_cl [(q13, .inr (8, [.ref q1, .ref q14, .ref q15, .int 0])), (q2, .inr (1, [.ref q3, .ref q4, .ref q5, .ref q6, .int 0])), (h0, .inr (0, [.ref q1, .ref q2, .ref q7, .ref q8, .int 0, .ref q9])), (q7, .inr (5, [.int 0, .ref E.2.2, .int 0])), (q12, .inr (5, [.int 0, .ref E.2.2, .int 0])), (q9, .inr (7, [.ref q10, .ref q11, .ref q12, .null, .null, .int 0, .int 0])), (q11, .inr (5, [.int 0, .ref E.2.2, .int 0]))] H := hP
  have hD : va_D A [(q13, .inr (8, [.ref q1, .ref q14, .ref q15, .int 0])), (q2, .inr (1, [.ref q3, .ref q4, .ref q5, .ref q6, .int 0])), (h0, .inr (0, [.ref q1, .ref q2, .ref q7, .ref q8, .int 0, .ref q9])), (q7, .inr (5, [.int 0, .ref E.2.2, .int 0])), (q12, .inr (5, [.int 0, .ref E.2.2, .int 0])), (q9, .inr (7, [.ref q10, .ref q11, .ref q12, .null, .null, .int 0, .int 0])), (q11, .inr (5, [.int 0, .ref E.2.2, .int 0]))] := hD
  refine W.widen (k := 11) (n := 286) (by omega) (by omega) ?_
  refine W.eq (g2 := F0 m 164 ls [.int 0]) rfl ?_
  have hP9 := hP.sub (ws' := []) [] rfl
  have hD9 := hD.sub (ws' := []) [] (by decide) rfl
  refine W.widen (k := 11) (n := 286) (Nat.le_of_ble_eq_true rfl) (Nat.le_of_ble_eq_true rfl) ?_
  exact W.iret hx hb hr (gk_q hP9 hD9 hS ⟨rfl, rfl⟩) hS.2.2 d_Jt_read_164


set_option maxHeartbeats 4000000 in
set_option maxRecDepth 100000 in
theorem c_Jt_count (l : Launch) (E : gk_E) (h0 : Nat) (q1 : Nat) (q2 : Nat) (q7 : Nat) (q8 : Nat) (q3 : Nat) (q4 : Nat) (q5 : Nat) (q6 : Nat) (q9 : Nat) (q10 : Nat) (q11 : Nat) (q12 : Nat) (q13 : Nat) (q14 : Nat) (q15 : Nat) (q16 : Nat) (q17 : Nat) (q18 : Nat) (q19 : Nat) (q20 : Nat) (q21 : Nat) (q22 : Nat) (xi : Int32) (sz : Nat) : gk_M l E y_Jt_count b_Jt_count 2 (some .int) 1 0 0 [.ref h0, .int xi] [(h0, .inr (0, [.ref q1, .ref q2, .ref q7, .ref q8, .int 0, .null])), (q2, .inr (1, [.ref q3, .ref q4, .ref q5, .ref q6, .int 0])), (q7, .inr (5, [.int 0, .ref E.2.2, .int 0])), (q8, .inr (2, [.ref q9, .ref q10, .ref q11, .ref q12, .ref q13, .ref q14, .ref q15, .int 0, .int 0, .long 0, .int 0, .int 0])), (q9, .inr (3, [.ref q16, .ref q17, .ref q18, .ref q19, .ref q20, .ref q21, .ref q22, .int 0]))] sz (fun r w => r = some (.int (gk_cnt xi)) ∧ w = []) := by
  refine gk_met (by decide) (Nat.le_of_ble_eq_true rfl) ?_
  intro p e s m below meth c A ls X hl hP hD hS
  have hx := X.1
  have hb := X.2.1
  have hown := X.2.2.2.1
  have hts := X.2.2.2.2.1
  have hZ := X.2.2.2.2.2.2.1
  have hr := X.2.2.2.2.2.2.2.2.1
  have hlocks : meth.locks = false := X.2.2.2.2.2.2.2.2.2.1
  have hl : lv_has ls 2 [(0, .ref h0), (1, .int xi)] := hl
  refine lv_iload_n hx hb d_Jt_count_0 rfl (lv_at hl 1 rfl) ?_
  by_cases c23 : xi.toInt < 0 ∨ 6 < xi.toInt
  · refine lv_tableOut (tgt := 116) hx hb d_Jt_count_1 c23 (by decide) ?_
    refine lv_iconst (v := (-1)) hx hb d_Jt_count_116 (by decide) ?_
    have hP9 := hP.sub (ws' := []) [] rfl
    have hD9 := hD.sub (ws' := []) [] (by decide) rfl
    refine W.widen (k := 0) (n := 0) (Nat.le_of_ble_eq_true rfl) (Nat.le_of_ble_eq_true rfl) ?_
    exact W.iret hx hb hr (gk_q hP9 hD9 hS ⟨by rw [gk_cnt, if_pos c23], rfl⟩) hS.2.2 d_Jt_count_117
  · rcases gk_sw6 c23 with rfl | rfl | rfl | rfl | rfl | rfl | rfl
    · refine lv_tableIn (tgt := 44) (off := 43) hx hb d_Jt_count_1 (by decide) (by decide) (by decide) (by decide) ?_
      refine lv_aload_n hx hb d_Jt_count_44 rfl (lv_at hl 0 rfl) ?_
      refine gk_get (b := h0) (ci := 0) (v := .int 0) X in_Jt hP 0 rfl rfl 4 (by decide) k_306 rfl d_Jt_count_45 ?_
      have hP9 := hP.sub (ws' := []) [] rfl
      have hD9 := hD.sub (ws' := []) [] (by decide) rfl
      refine W.widen (k := 0) (n := 0) (Nat.le_of_ble_eq_true rfl) (Nat.le_of_ble_eq_true rfl) ?_
      exact W.iret hx hb hr (gk_q hP9 hD9 hS ⟨rfl, rfl⟩) hS.2.2 d_Jt_count_48
    · refine lv_tableIn (tgt := 49) (off := 48) hx hb d_Jt_count_1 (by decide) (by decide) (by decide) (by decide) ?_
      refine lv_aload_n hx hb d_Jt_count_49 rfl (lv_at hl 0 rfl) ?_
      refine gk_get (b := h0) (ci := 0) (v := .ref q7) X in_Jt hP 0 rfl rfl 2 (by decide) k_304 rfl d_Jt_count_50 ?_
      refine gk_back (wr := [(h0, .inr (0, [.ref q1, .ref q2, .ref q7, .ref q8, .int 0, .null])), (q2, .inr (1, [.ref q3, .ref q4, .ref q5, .ref q6, .int 0])), (q8, .inr (2, [.ref q9, .ref q10, .ref q11, .ref q12, .ref q13, .ref q14, .ref q15, .int 0, .int 0, .long 0, .int 0, .int 0])), (q9, .inr (3, [.ref q16, .ref q17, .ref q18, .ref q19, .ref q20, .ref q21, .ref q22, .int 0]))]) (gk_runV (As := []) (rest := []) (ci := 5) (q0 := 2) X (c_Al_size l E q7 s.heap.size) ok_Al_size (Or.inl k_731) k_732 k_733 rfl rfl rfl hP hD hS [2] rfl rfl hl.1 rfl (Nat.le_of_ble_eq_true rfl) d_Jt_count_53 ⟨(Nat.le_of_ble_eq_true rfl), (Nat.le_of_ble_eq_true rfl)⟩ ⟨(Nat.le_of_ble_eq_true rfl), (Nat.le_of_ble_eq_true rfl)⟩) hP hD hS X.2.2.2.2.2.2.2.1 [2] [0, 1, 3, 4] rfl rfl rfl (by decide) (fun r w H locs hB hP hD hS => ?_)
      obtain ⟨rfl, rfl⟩ := hB
      have hP : va_P E.1 gk_cl [(h0, .inr (0, [.ref q1, .ref q2, .ref q7, .ref q8, .int 0, .null])), (q2, .inr (1, [.ref q3, .ref q4, .ref q5, .ref q6, .int 0])), (q8, .inr (2, [.ref q9, .ref q10, .ref q11, .ref q12, .ref q13, .ref q14, .ref q15, .int 0, .int 0, .long 0, .int 0, .int 0])), (q9, .inr (3, [.ref q16, .ref q17, .ref q18, .ref q19, .ref q20, .ref q21, .ref q22, .int 0])), (q7, .inr (5, [.int 0, .ref E.2.2, .int 0]))] H := hP
      have hD : va_D A [(h0, .inr (0, [.ref q1, .ref q2, .ref q7, .ref q8, .int 0, .null])), (q2, .inr (1, [.ref q3, .ref q4, .ref q5, .ref q6, .int 0])), (q8, .inr (2, [.ref q9, .ref q10, .ref q11, .ref q12, .ref q13, .ref q14, .ref q15, .int 0, .int 0, .long 0, .int 0, .int 0])), (q9, .inr (3, [.ref q16, .ref q17, .ref q18, .ref q19, .ref q20, .ref q21, .ref q22, .int 0])), (q7, .inr (5, [.int 0, .ref E.2.2, .int 0]))] := hD
      refine W.widen (k := 0) (n := 0) (by omega) (by omega) ?_
      refine W.eq (g2 := F0 m 56 ls [.int 0]) rfl ?_
      have hP9 := hP.sub (ws' := []) [] rfl
      have hD9 := hD.sub (ws' := []) [] (by decide) rfl
      refine W.widen (k := 0) (n := 0) (Nat.le_of_ble_eq_true rfl) (Nat.le_of_ble_eq_true rfl) ?_
      exact W.iret hx hb hr (gk_q hP9 hD9 hS ⟨rfl, rfl⟩) hS.2.2 d_Jt_count_56
    · refine lv_tableIn (tgt := 57) (off := 56) hx hb d_Jt_count_1 (by decide) (by decide) (by decide) (by decide) ?_
      refine lv_aload_n hx hb d_Jt_count_57 rfl (lv_at hl 0 rfl) ?_
      refine gk_get (b := h0) (ci := 0) (v := .null) X in_Jt hP 0 rfl rfl 5 (by decide) k_307 rfl d_Jt_count_58 ?_
      refine lv_ifnonnullN hx hb d_Jt_count_61 ?_
      refine lv_iconst (v := 0) hx hb d_Jt_count_64 (by decide) ?_
      refine lv_goto (tgt := 75) hx hb d_Jt_count_65 (by decide) ?_
      have hP9 := hP.sub (ws' := []) [] rfl
      have hD9 := hD.sub (ws' := []) [] (by decide) rfl
      refine W.widen (k := 0) (n := 0) (Nat.le_of_ble_eq_true rfl) (Nat.le_of_ble_eq_true rfl) ?_
      exact W.iret hx hb hr (gk_q hP9 hD9 hS ⟨rfl, rfl⟩) hS.2.2 d_Jt_count_75
    · refine lv_tableIn (tgt := 76) (off := 75) hx hb d_Jt_count_1 (by decide) (by decide) (by decide) (by decide) ?_
      refine lv_aload_n hx hb d_Jt_count_76 rfl (lv_at hl 0 rfl) ?_
      refine gk_get (b := h0) (ci := 0) (v := .ref q2) X in_Jt hP 0 rfl rfl 1 (by decide) k_303 rfl d_Jt_count_77 ?_
      refine gk_back (wr := [(h0, .inr (0, [.ref q1, .ref q2, .ref q7, .ref q8, .int 0, .null])), (q7, .inr (5, [.int 0, .ref E.2.2, .int 0])), (q8, .inr (2, [.ref q9, .ref q10, .ref q11, .ref q12, .ref q13, .ref q14, .ref q15, .int 0, .int 0, .long 0, .int 0, .int 0])), (q9, .inr (3, [.ref q16, .ref q17, .ref q18, .ref q19, .ref q20, .ref q21, .ref q22, .int 0]))]) (gk_runV (As := []) (rest := []) (ci := 1) (q0 := 1) X (c_Fa_total l E q2 q3 q4 q5 q6 s.heap.size) ok_Fa_total (Or.inl k_899) k_900 k_901 rfl rfl rfl hP hD hS [1] rfl rfl hl.1 rfl (Nat.le_of_ble_eq_true rfl) d_Jt_count_80 ⟨(Nat.le_of_ble_eq_true rfl), (Nat.le_of_ble_eq_true rfl)⟩ ⟨(Nat.le_of_ble_eq_true rfl), (Nat.le_of_ble_eq_true rfl)⟩) hP hD hS X.2.2.2.2.2.2.2.1 [1] [0, 2, 3, 4] rfl rfl rfl (by decide) (fun r w H locs hB hP hD hS => ?_)
      obtain ⟨rfl, rfl⟩ := hB
      have hP : va_P E.1 gk_cl [(h0, .inr (0, [.ref q1, .ref q2, .ref q7, .ref q8, .int 0, .null])), (q7, .inr (5, [.int 0, .ref E.2.2, .int 0])), (q8, .inr (2, [.ref q9, .ref q10, .ref q11, .ref q12, .ref q13, .ref q14, .ref q15, .int 0, .int 0, .long 0, .int 0, .int 0])), (q9, .inr (3, [.ref q16, .ref q17, .ref q18, .ref q19, .ref q20, .ref q21, .ref q22, .int 0])), (q2, .inr (1, [.ref q3, .ref q4, .ref q5, .ref q6, .int 0]))] H := hP
      have hD : va_D A [(h0, .inr (0, [.ref q1, .ref q2, .ref q7, .ref q8, .int 0, .null])), (q7, .inr (5, [.int 0, .ref E.2.2, .int 0])), (q8, .inr (2, [.ref q9, .ref q10, .ref q11, .ref q12, .ref q13, .ref q14, .ref q15, .int 0, .int 0, .long 0, .int 0, .int 0])), (q9, .inr (3, [.ref q16, .ref q17, .ref q18, .ref q19, .ref q20, .ref q21, .ref q22, .int 0])), (q2, .inr (1, [.ref q3, .ref q4, .ref q5, .ref q6, .int 0]))] := hD
      refine W.widen (k := 0) (n := 0) (by omega) (by omega) ?_
      refine W.eq (g2 := F0 m 83 ls [.int 0]) rfl ?_
      have hP9 := hP.sub (ws' := []) [] rfl
      have hD9 := hD.sub (ws' := []) [] (by decide) rfl
      refine W.widen (k := 0) (n := 0) (Nat.le_of_ble_eq_true rfl) (Nat.le_of_ble_eq_true rfl) ?_
      exact W.iret hx hb hr (gk_q hP9 hD9 hS ⟨rfl, rfl⟩) hS.2.2 d_Jt_count_83
    · refine lv_tableIn (tgt := 84) (off := 83) hx hb d_Jt_count_1 (by decide) (by decide) (by decide) (by decide) ?_
      refine lv_aload_n hx hb d_Jt_count_84 rfl (lv_at hl 0 rfl) ?_
      refine gk_get (b := h0) (ci := 0) (v := .ref q8) X in_Jt hP 0 rfl rfl 3 (by decide) k_305 rfl d_Jt_count_85 ?_
      refine gk_back (wr := [(h0, .inr (0, [.ref q1, .ref q2, .ref q7, .ref q8, .int 0, .null])), (q2, .inr (1, [.ref q3, .ref q4, .ref q5, .ref q6, .int 0])), (q7, .inr (5, [.int 0, .ref E.2.2, .int 0])), (q9, .inr (3, [.ref q16, .ref q17, .ref q18, .ref q19, .ref q20, .ref q21, .ref q22, .int 0]))]) (gk_runV (As := []) (rest := []) (ci := 2) (q0 := 3) X (c_Ex_listing l E q8 q9 q10 q11 q12 q13 q14 q15 s.heap.size) ok_Ex_listing (Or.inl k_1302) k_1303 k_1304 rfl rfl rfl hP hD hS [3] rfl rfl hl.1 rfl (Nat.le_of_ble_eq_true rfl) d_Jt_count_88 ⟨(Nat.le_of_ble_eq_true rfl), (Nat.le_of_ble_eq_true rfl)⟩ ⟨(Nat.le_of_ble_eq_true rfl), (Nat.le_of_ble_eq_true rfl)⟩) hP hD hS X.2.2.2.2.2.2.2.1 [3] [0, 1, 2, 4] rfl rfl rfl (by decide) (fun r w H locs hB hP hD hS => ?_)
      obtain ⟨rfl, rfl⟩ := hB
      have hP : va_P E.1 gk_cl [(h0, .inr (0, [.ref q1, .ref q2, .ref q7, .ref q8, .int 0, .null])), (q2, .inr (1, [.ref q3, .ref q4, .ref q5, .ref q6, .int 0])), (q7, .inr (5, [.int 0, .ref E.2.2, .int 0])), (q9, .inr (3, [.ref q16, .ref q17, .ref q18, .ref q19, .ref q20, .ref q21, .ref q22, .int 0])), (q8, .inr (2, [.ref q9, .ref q10, .ref q11, .ref q12, .ref q13, .ref q14, .ref q15, .int 0, .int 0, .long 0, .int 0, .int 0]))] H := hP
      have hD : va_D A [(h0, .inr (0, [.ref q1, .ref q2, .ref q7, .ref q8, .int 0, .null])), (q2, .inr (1, [.ref q3, .ref q4, .ref q5, .ref q6, .int 0])), (q7, .inr (5, [.int 0, .ref E.2.2, .int 0])), (q9, .inr (3, [.ref q16, .ref q17, .ref q18, .ref q19, .ref q20, .ref q21, .ref q22, .int 0])), (q8, .inr (2, [.ref q9, .ref q10, .ref q11, .ref q12, .ref q13, .ref q14, .ref q15, .int 0, .int 0, .long 0, .int 0, .int 0]))] := hD
      refine W.widen (k := 0) (n := 0) (by omega) (by omega) ?_
      refine W.eq (g2 := F0 m 91 ls [.ref q9]) rfl ?_
      refine gk_back (wr := [(h0, .inr (0, [.ref q1, .ref q2, .ref q7, .ref q8, .int 0, .null])), (q2, .inr (1, [.ref q3, .ref q4, .ref q5, .ref q6, .int 0])), (q7, .inr (5, [.int 0, .ref E.2.2, .int 0])), (q8, .inr (2, [.ref q9, .ref q10, .ref q11, .ref q12, .ref q13, .ref q14, .ref q15, .int 0, .int 0, .long 0, .int 0, .int 0]))]) (gk_runV (As := []) (rest := []) (ci := 3) (q0 := 3) X (c_Li_size l E q9 q16 q17 q18 q19 q20 q21 q22 H.size) ok_Li_size (Or.inl k_1341) k_1295 k_1296 rfl rfl rfl hP hD hS [3] rfl rfl hl.1 rfl (Nat.le_of_ble_eq_true rfl) d_Jt_count_91 ⟨(Nat.le_of_ble_eq_true rfl), (Nat.le_of_ble_eq_true rfl)⟩ ⟨(Nat.le_of_ble_eq_true rfl), (Nat.le_of_ble_eq_true rfl)⟩) hP hD hS X.2.2.2.2.2.2.2.1 [3] [0, 1, 2, 4] rfl rfl rfl (by decide) (fun r w H locs hB hP hD hS => ?_)
      obtain ⟨rfl, rfl⟩ := hB
      have hP : va_P E.1 gk_cl [(h0, .inr (0, [.ref q1, .ref q2, .ref q7, .ref q8, .int 0, .null])), (q2, .inr (1, [.ref q3, .ref q4, .ref q5, .ref q6, .int 0])), (q7, .inr (5, [.int 0, .ref E.2.2, .int 0])), (q8, .inr (2, [.ref q9, .ref q10, .ref q11, .ref q12, .ref q13, .ref q14, .ref q15, .int 0, .int 0, .long 0, .int 0, .int 0])), (q9, .inr (3, [.ref q16, .ref q17, .ref q18, .ref q19, .ref q20, .ref q21, .ref q22, .int 0]))] H := hP
      have hD : va_D A [(h0, .inr (0, [.ref q1, .ref q2, .ref q7, .ref q8, .int 0, .null])), (q2, .inr (1, [.ref q3, .ref q4, .ref q5, .ref q6, .int 0])), (q7, .inr (5, [.int 0, .ref E.2.2, .int 0])), (q8, .inr (2, [.ref q9, .ref q10, .ref q11, .ref q12, .ref q13, .ref q14, .ref q15, .int 0, .int 0, .long 0, .int 0, .int 0])), (q9, .inr (3, [.ref q16, .ref q17, .ref q18, .ref q19, .ref q20, .ref q21, .ref q22, .int 0]))] := hD
      refine W.widen (k := 0) (n := 0) (by omega) (by omega) ?_
      refine W.eq (g2 := F0 m 94 ls [.int 0]) rfl ?_
      have hP9 := hP.sub (ws' := []) [] rfl
      have hD9 := hD.sub (ws' := []) [] (by decide) rfl
      refine W.widen (k := 0) (n := 0) (Nat.le_of_ble_eq_true rfl) (Nat.le_of_ble_eq_true rfl) ?_
      exact W.iret hx hb hr (gk_q hP9 hD9 hS ⟨rfl, rfl⟩) hS.2.2 d_Jt_count_94
    · refine lv_tableIn (tgt := 95) (off := 94) hx hb d_Jt_count_1 (by decide) (by decide) (by decide) (by decide) ?_
      refine lv_aload_n hx hb d_Jt_count_95 rfl (lv_at hl 0 rfl) ?_
      refine gk_get (b := h0) (ci := 0) (v := .ref q8) X in_Jt hP 0 rfl rfl 3 (by decide) k_305 rfl d_Jt_count_96 ?_
      refine gk_back (wr := [(h0, .inr (0, [.ref q1, .ref q2, .ref q7, .ref q8, .int 0, .null])), (q2, .inr (1, [.ref q3, .ref q4, .ref q5, .ref q6, .int 0])), (q7, .inr (5, [.int 0, .ref E.2.2, .int 0])), (q9, .inr (3, [.ref q16, .ref q17, .ref q18, .ref q19, .ref q20, .ref q21, .ref q22, .int 0]))]) (gk_runV (As := []) (rest := []) (ci := 2) (q0 := 3) X (c_Ex_missing l E q8 q9 q10 q11 q12 q13 q14 q15 s.heap.size) ok_Ex_missing (Or.inl k_1342) k_1343 k_1344 rfl rfl rfl hP hD hS [3] rfl rfl hl.1 rfl (Nat.le_of_ble_eq_true rfl) d_Jt_count_99 ⟨(Nat.le_of_ble_eq_true rfl), (Nat.le_of_ble_eq_true rfl)⟩ ⟨(Nat.le_of_ble_eq_true rfl), (Nat.le_of_ble_eq_true rfl)⟩) hP hD hS X.2.2.2.2.2.2.2.1 [3] [0, 1, 2, 4] rfl rfl rfl (by decide) (fun r w H locs hB hP hD hS => ?_)
      obtain ⟨rfl, rfl⟩ := hB
      have hP : va_P E.1 gk_cl [(h0, .inr (0, [.ref q1, .ref q2, .ref q7, .ref q8, .int 0, .null])), (q2, .inr (1, [.ref q3, .ref q4, .ref q5, .ref q6, .int 0])), (q7, .inr (5, [.int 0, .ref E.2.2, .int 0])), (q9, .inr (3, [.ref q16, .ref q17, .ref q18, .ref q19, .ref q20, .ref q21, .ref q22, .int 0])), (q8, .inr (2, [.ref q9, .ref q10, .ref q11, .ref q12, .ref q13, .ref q14, .ref q15, .int 0, .int 0, .long 0, .int 0, .int 0]))] H := hP
      have hD : va_D A [(h0, .inr (0, [.ref q1, .ref q2, .ref q7, .ref q8, .int 0, .null])), (q2, .inr (1, [.ref q3, .ref q4, .ref q5, .ref q6, .int 0])), (q7, .inr (5, [.int 0, .ref E.2.2, .int 0])), (q9, .inr (3, [.ref q16, .ref q17, .ref q18, .ref q19, .ref q20, .ref q21, .ref q22, .int 0])), (q8, .inr (2, [.ref q9, .ref q10, .ref q11, .ref q12, .ref q13, .ref q14, .ref q15, .int 0, .int 0, .long 0, .int 0, .int 0]))] := hD
      refine W.widen (k := 0) (n := 0) (by omega) (by omega) ?_
      refine W.eq (g2 := F0 m 102 ls [.int 0]) rfl ?_
      have hP9 := hP.sub (ws' := []) [] rfl
      have hD9 := hD.sub (ws' := []) [] (by decide) rfl
      refine W.widen (k := 0) (n := 0) (Nat.le_of_ble_eq_true rfl) (Nat.le_of_ble_eq_true rfl) ?_
      exact W.iret hx hb hr (gk_q hP9 hD9 hS ⟨rfl, rfl⟩) hS.2.2 d_Jt_count_102
    · refine lv_tableIn (tgt := 103) (off := 102) hx hb d_Jt_count_1 (by decide) (by decide) (by decide) (by decide) ?_
      refine lv_aload_n hx hb d_Jt_count_103 rfl (lv_at hl 0 rfl) ?_
      refine gk_back (wr := [(q2, .inr (1, [.ref q3, .ref q4, .ref q5, .ref q6, .int 0])), (q7, .inr (5, [.int 0, .ref E.2.2, .int 0])), (q8, .inr (2, [.ref q9, .ref q10, .ref q11, .ref q12, .ref q13, .ref q14, .ref q15, .int 0, .int 0, .long 0, .int 0, .int 0])), (q9, .inr (3, [.ref q16, .ref q17, .ref q18, .ref q19, .ref q20, .ref q21, .ref q22, .int 0]))]) (gk_runV (As := []) (rest := []) (ci := 0) (q0 := 0) X (c_Jt_hasJob l E h0 q1 q2 q7 q8 s.heap.size) ok_Jt_hasJob (Or.inl k_971) k_973 k_21 rfl rfl rfl hP hD hS [0] rfl rfl hl.1 rfl (Nat.le_of_ble_eq_true rfl) d_Jt_count_104 ⟨(Nat.le_of_ble_eq_true rfl), (Nat.le_of_ble_eq_true rfl)⟩ ⟨(Nat.le_of_ble_eq_true rfl), (Nat.le_of_ble_eq_true rfl)⟩) hP hD hS X.2.2.2.2.2.2.2.1 [0] [1, 2, 3, 4] rfl rfl rfl (by decide) (fun r w H locs hB hP hD hS => ?_)
      obtain ⟨rfl, rfl⟩ := hB
      have hP : va_P E.1 gk_cl [(q2, .inr (1, [.ref q3, .ref q4, .ref q5, .ref q6, .int 0])), (q7, .inr (5, [.int 0, .ref E.2.2, .int 0])), (q8, .inr (2, [.ref q9, .ref q10, .ref q11, .ref q12, .ref q13, .ref q14, .ref q15, .int 0, .int 0, .long 0, .int 0, .int 0])), (q9, .inr (3, [.ref q16, .ref q17, .ref q18, .ref q19, .ref q20, .ref q21, .ref q22, .int 0])), (h0, .inr (0, [.ref q1, .ref q2, .ref q7, .ref q8, .int 0, .null]))] H := hP
      have hD : va_D A [(q2, .inr (1, [.ref q3, .ref q4, .ref q5, .ref q6, .int 0])), (q7, .inr (5, [.int 0, .ref E.2.2, .int 0])), (q8, .inr (2, [.ref q9, .ref q10, .ref q11, .ref q12, .ref q13, .ref q14, .ref q15, .int 0, .int 0, .long 0, .int 0, .int 0])), (q9, .inr (3, [.ref q16, .ref q17, .ref q18, .ref q19, .ref q20, .ref q21, .ref q22, .int 0])), (h0, .inr (0, [.ref q1, .ref q2, .ref q7, .ref q8, .int 0, .null]))] := hD
      refine W.widen (k := 0) (n := 0) (by omega) (by omega) ?_
      refine W.eq (g2 := F0 m 107 ls [.int 0]) rfl ?_
      refine lv_if_eq (tgt := 114) hx hb d_Jt_count_107 (by decide) (fun _ => ?_) (fun c9 => absurd (by decide) c9)
      refine lv_iconst (v := 0) hx hb d_Jt_count_114 (by decide) ?_
      have hP9 := hP.sub (ws' := []) [] rfl
      have hD9 := hD.sub (ws' := []) [] (by decide) rfl
      refine W.widen (k := 0) (n := 0) (Nat.le_of_ble_eq_true rfl) (Nat.le_of_ble_eq_true rfl) ?_
      exact W.iret hx hb hr (gk_q hP9 hD9 hS ⟨rfl, rfl⟩) hS.2.2 d_Jt_count_115
