set_option maxHeartbeats 4000000 in
set_option maxRecDepth 100000 in
theorem law_0 {p : Program} {e : Env} {s : State} {m : MethodId} {below : List Frame} {meth : Method} {c : Code} {b : Nat} {xs : Nat → Int32} {A : Nat → Prop} (l : Launch) (E : gk_E) (hAe : ∀ q, A q → s.heap.size ≤ q) (X : gk_X E p s m #[Value.ref b] meth c y_law b_law 4 ret A) (hX : va_X b 0 xs s s.heap) (hbl : b < s.heap.size) (ls : Array Slot) (hl : lv_has ls 4 [(0, .ref b)]) : W p l e room_1 s m #[Value.ref b] below meth c s.heap [] 0 0 (lw_Z below #[Value.ref b] s) (F0 m 0 ls []) := by
  have hx := X.1
  have hb := X.2.1
  have hown := X.2.2.2.1
  have hts := X.2.2.2.2.1
  have hr := X.2.2.2.2.2.2.2.2.1
  have hlocks : meth.locks = false := X.2.2.2.2.2.2.2.2.2.1
  have hbA : ¬ A b := fun h => Nat.not_le.mpr hbl (hAe b h)
  have hP : va_P E.1 gk_cl [] s.heap := fun k q h => by simp at h
  have hD : va_D A [] := ⟨fun i j p q h => by simp at h, fun k q h => by simp at h⟩
  have hS : va_S A s.heap s.heap [] := va_S.rf
  obtain ⟨s0, es0⟩ : ∃ z, z = xs (Int32.toNatClampNeg 0) := ⟨_, rfl⟩
  obtain ⟨s1, es1⟩ : ∃ z, z = xs (Int32.toNatClampNeg 1) := ⟨_, rfl⟩
  obtain ⟨s2, es2⟩ : ∃ z, z = xs (Int32.toNatClampNeg 2) := ⟨_, rfl⟩
  obtain ⟨s3, es3⟩ : ∃ z, z = xs (Int32.toNatClampNeg 3) := ⟨_, rfl⟩
  refine gk_new (ci := 0) (fs := df_Jt) X in_Jt t_Jt t_Jt_ok k_117 k_118 k_90 hP hD hS rfl df_Jt_ok (Nat.le_of_ble_eq_true rfl) (Nat.le_of_ble_eq_true rfl) d_law_0 (fun q1 H hP hD hS => ?_)
  have hP : va_P E.1 gk_cl [(q1, .inr (0, [.null, .null, .null, .null, .int 0, .null]))] H := hP
  have hD : va_D A [(q1, .inr (0, [.null, .null, .null, .null, .int 0, .null]))] := hD
  refine W.widen (k := 1) (n := 6) (by omega) (by omega) ?_
  refine lv_dup hx hb d_law_3 rfl ?_
  refine gk_back (wr := []) (gk_runI (As := []) (rest := [.ref q1]) X (c_Jt_init l E q1 H.size) ok_Jt_init (Or.inl k_119) k_120 rfl rfl hP hD hS [0] rfl rfl hl.1 rfl (Nat.le_of_ble_eq_true rfl) d_law_4 ⟨(Nat.le_of_ble_eq_true rfl), (Nat.le_of_ble_eq_true rfl)⟩ ⟨(Nat.le_of_ble_eq_true rfl), (Nat.le_of_ble_eq_true rfl)⟩) hP hD hS X.2.2.2.2.2.2.2.1 [0] [] rfl rfl rfl (by decide) (fun r w H locs hB hP hD hS => ?_)
  obtain ⟨q2, q3, q4, q5, q6, q7, q8, q9, q10, q11, q12, q13, q14, q15, q16, q17, q18, q19, q20, q21, q22, q23, rfl, rfl⟩ := hB
  have hP : va_P E.1 gk_cl [(q1, .inr (0, [.ref q2, .ref q3, .ref q4, .ref q5, .int 0, .null])), (q2, .inl (E.2.1 1, 3000, .inl (fun _ => 0))), (q3, .inr (1, [.ref q6, .ref q7, .ref q8, .ref q9, .int 0])), (q4, .inr (5, [.int 0, .ref E.2.2, .int 0])), (q5, .inr (2, [.ref q10, .ref q11, .ref q12, .ref q13, .ref q14, .ref q15, .ref q16, .int 0, .int 0, .long 0, .int 0, .int 0])), (q10, .inr (3, [.ref q17, .ref q18, .ref q19, .ref q20, .ref q21, .ref q22, .ref q23, .int 0]))] H := hP
  have hD : va_D A [(q1, .inr (0, [.ref q2, .ref q3, .ref q4, .ref q5, .int 0, .null])), (q2, .inl (E.2.1 1, 3000, .inl (fun _ => 0))), (q3, .inr (1, [.ref q6, .ref q7, .ref q8, .ref q9, .int 0])), (q4, .inr (5, [.int 0, .ref E.2.2, .int 0])), (q5, .inr (2, [.ref q10, .ref q11, .ref q12, .ref q13, .ref q14, .ref q15, .ref q16, .int 0, .int 0, .long 0, .int 0, .int 0])), (q10, .inr (3, [.ref q17, .ref q18, .ref q19, .ref q20, .ref q21, .ref q22, .ref q23, .int 0]))] := hD
  refine W.widen (k := 30) (n := 4306) (by omega) (by omega) ?_
  refine lv_astore_n (lv' := [(1, .ref q1), (0, .ref b)]) hx hb d_law_7 rfl hl (by decide) rfl (fun ls hl => ?_)
  refine gk_new (ci := 10) (fs := df_Mo) X in_Mo t_Mo t_Mo_ok k_1346 k_1347 k_102 hP hD hS rfl df_Mo_ok (Nat.le_of_ble_eq_true rfl) (Nat.le_of_ble_eq_true rfl) d_law_8 (fun q24 H hP hD hS => ?_)
  have hP : va_P E.1 gk_cl [(q1, .inr (0, [.ref q2, .ref q3, .ref q4, .ref q5, .int 0, .null])), (q2, .inl (E.2.1 1, 3000, .inl (fun _ => 0))), (q3, .inr (1, [.ref q6, .ref q7, .ref q8, .ref q9, .int 0])), (q4, .inr (5, [.int 0, .ref E.2.2, .int 0])), (q5, .inr (2, [.ref q10, .ref q11, .ref q12, .ref q13, .ref q14, .ref q15, .ref q16, .int 0, .int 0, .long 0, .int 0, .int 0])), (q10, .inr (3, [.ref q17, .ref q18, .ref q19, .ref q20, .ref q21, .ref q22, .ref q23, .int 0])), (q24, .inr (10, [.int 0, .null, .null, .int 0, .null, .null, .null, .null, .null, .null, .null, .null, .null, .null, .null, .null, .null, .null, .null, .int 0, .int 0, .int 0, .int 0, .null, .null, .null, .null, .int 0, .int 0, .null, .null, .int 0, .int 0, .int 0, .int 0, .int 0, .int 0, .int 0, .int 0, .null, .int 0, .int 0, .int 0, .int 0, .null, .null, .null, .null, .null, .null, .null, .null, .int 0, .int 0, .null, .null, .null, .int 0, .null, .null, .null, .null, .null, .null, .null, .null, .null, .int 0, .null, .null, .null, .null, .null, .int 0, .null, .null, .null, .int 0, .int 0, .null, .null]))] H := hP
  have hD : va_D A [(q1, .inr (0, [.ref q2, .ref q3, .ref q4, .ref q5, .int 0, .null])), (q2, .inl (E.2.1 1, 3000, .inl (fun _ => 0))), (q3, .inr (1, [.ref q6, .ref q7, .ref q8, .ref q9, .int 0])), (q4, .inr (5, [.int 0, .ref E.2.2, .int 0])), (q5, .inr (2, [.ref q10, .ref q11, .ref q12, .ref q13, .ref q14, .ref q15, .ref q16, .int 0, .int 0, .long 0, .int 0, .int 0])), (q10, .inr (3, [.ref q17, .ref q18, .ref q19, .ref q20, .ref q21, .ref q22, .ref q23, .int 0])), (q24, .inr (10, [.int 0, .null, .null, .int 0, .null, .null, .null, .null, .null, .null, .null, .null, .null, .null, .null, .null, .null, .null, .null, .int 0, .int 0, .int 0, .int 0, .null, .null, .null, .null, .int 0, .int 0, .null, .null, .int 0, .int 0, .int 0, .int 0, .int 0, .int 0, .int 0, .int 0, .null, .int 0, .int 0, .int 0, .int 0, .null, .null, .null, .null, .null, .null, .null, .null, .int 0, .int 0, .null, .null, .null, .int 0, .null, .null, .null, .null, .null, .null, .null, .null, .null, .int 0, .null, .null, .null, .null, .null, .int 0, .null, .null, .null, .int 0, .int 0, .null, .null]))] := hD
  refine W.widen (k := 31) (n := 4387) (by omega) (by omega) ?_
  refine lv_dup hx hb d_law_11 rfl ?_
  refine gk_back (wr := [(q1, .inr (0, [.ref q2, .ref q3, .ref q4, .ref q5, .int 0, .null])), (q2, .inl (E.2.1 1, 3000, .inl (fun _ => 0))), (q3, .inr (1, [.ref q6, .ref q7, .ref q8, .ref q9, .int 0])), (q4, .inr (5, [.int 0, .ref E.2.2, .int 0])), (q5, .inr (2, [.ref q10, .ref q11, .ref q12, .ref q13, .ref q14, .ref q15, .ref q16, .int 0, .int 0, .long 0, .int 0, .int 0])), (q10, .inr (3, [.ref q17, .ref q18, .ref q19, .ref q20, .ref q21, .ref q22, .ref q23, .int 0]))]) (gk_runI (As := []) (rest := [.ref q24]) X (c_Mo_init l E q24 H.size) ok_Mo_init (Or.inl k_1348) k_1349 rfl rfl hP hD hS [6] rfl rfl hl.1 rfl (Nat.le_of_ble_eq_true rfl) d_law_12 ⟨(Nat.le_of_ble_eq_true rfl), (Nat.le_of_ble_eq_true rfl)⟩ ⟨(Nat.le_of_ble_eq_true rfl), (Nat.le_of_ble_eq_true rfl)⟩) hP hD hS X.2.2.2.2.2.2.2.1 [6] [0, 1, 2, 3, 4, 5] rfl rfl rfl (by decide) (fun r w H locs hB hP hD hS => ?_)
  obtain ⟨q25, q26, q27, q28, q29, q30, q31, q32, q33, q34, q35, q36, q37, q38, q39, q40, q41, q42, q43, q44, q45, q46, q47, q48, q49, q50, q51, q52, q53, q54, q55, q56, q57, q58, q59, q60, q61, q62, q63, q64, q65, q66, q67, q68, q69, q70, q71, q72, q73, q74, q75, q76, q77, q78, rfl, rfl⟩ := hB
  have hP : va_P E.1 gk_cl [(q1, .inr (0, [.ref q2, .ref q3, .ref q4, .ref q5, .int 0, .null])), (q2, .inl (E.2.1 1, 3000, .inl (fun _ => 0))), (q3, .inr (1, [.ref q6, .ref q7, .ref q8, .ref q9, .int 0])), (q4, .inr (5, [.int 0, .ref E.2.2, .int 0])), (q5, .inr (2, [.ref q10, .ref q11, .ref q12, .ref q13, .ref q14, .ref q15, .ref q16, .int 0, .int 0, .long 0, .int 0, .int 0])), (q10, .inr (3, [.ref q17, .ref q18, .ref q19, .ref q20, .ref q21, .ref q22, .ref q23, .int 0])), (q24, .inr (10, [.int 0, .ref q25, .ref q26, .int 0, .ref q27, .ref q28, .ref q29, .ref q30, .ref q31, .ref q32, .ref q33, .ref q34, .ref q35, .ref q36, .ref q37, .ref q38, .ref q39, .ref q40, .ref q41, .int 0, .int 0, .int 0, .int 0, .ref q42, .ref q43, .ref q44, .ref q45, .int 0, .int 0, .ref q46, .ref q47, .int 0, .int 0, .int 0, .int 0, .int 0, .int 0, .int 0, .int 0, .ref q48, .int 0, .int 0, .int 0, .int 0, .ref q49, .ref q50, .ref q51, .ref q52, .ref q53, .ref q54, .ref q55, .ref q56, .int 0, .int 0, .ref q57, .ref q58, .ref q59, .int 0, .ref q60, .ref q61, .ref q62, .ref q63, .ref q64, .ref q65, .ref q66, .ref q67, .ref q68, .int 0, .ref q69, .ref q70, .ref q71, .ref q72, .ref q73, .int 0, .ref q74, .ref q75, .ref q76, .int 0, .int 0, .ref q77, .ref q78])), (q27, .inl (E.2.1 0, 13, .inl (fun _ => 0))), (q26, .inl (E.2.1 0, 3000, .inl (fun _ => 0)))] H := hP
  have hD : va_D A [(q1, .inr (0, [.ref q2, .ref q3, .ref q4, .ref q5, .int 0, .null])), (q2, .inl (E.2.1 1, 3000, .inl (fun _ => 0))), (q3, .inr (1, [.ref q6, .ref q7, .ref q8, .ref q9, .int 0])), (q4, .inr (5, [.int 0, .ref E.2.2, .int 0])), (q5, .inr (2, [.ref q10, .ref q11, .ref q12, .ref q13, .ref q14, .ref q15, .ref q16, .int 0, .int 0, .long 0, .int 0, .int 0])), (q10, .inr (3, [.ref q17, .ref q18, .ref q19, .ref q20, .ref q21, .ref q22, .ref q23, .int 0])), (q24, .inr (10, [.int 0, .ref q25, .ref q26, .int 0, .ref q27, .ref q28, .ref q29, .ref q30, .ref q31, .ref q32, .ref q33, .ref q34, .ref q35, .ref q36, .ref q37, .ref q38, .ref q39, .ref q40, .ref q41, .int 0, .int 0, .int 0, .int 0, .ref q42, .ref q43, .ref q44, .ref q45, .int 0, .int 0, .ref q46, .ref q47, .int 0, .int 0, .int 0, .int 0, .int 0, .int 0, .int 0, .int 0, .ref q48, .int 0, .int 0, .int 0, .int 0, .ref q49, .ref q50, .ref q51, .ref q52, .ref q53, .ref q54, .ref q55, .ref q56, .int 0, .int 0, .ref q57, .ref q58, .ref q59, .int 0, .ref q60, .ref q61, .ref q62, .ref q63, .ref q64, .ref q65, .ref q66, .ref q67, .ref q68, .int 0, .ref q69, .ref q70, .ref q71, .ref q72, .ref q73, .int 0, .ref q74, .ref q75, .ref q76, .int 0, .int 0, .ref q77, .ref q78])), (q27, .inl (E.2.1 0, 13, .inl (fun _ => 0))), (q26, .inl (E.2.1 0, 3000, .inl (fun _ => 0)))] := hD
  refine W.widen (k := 85) (n := 1318515) (by omega) (by omega) ?_
  refine lv_astore_n (lv' := [(2, .ref q24), (1, .ref q1), (0, .ref b)]) hx hb d_law_15 rfl hl (by decide) rfl (fun ls hl => ?_)
  refine lv_iconst (v := 0) hx hb d_law_16 (by decide) ?_
  refine lv_istore_n (lv' := [(3, .int 0), (2, .ref q24), (1, .ref q1), (0, .ref b)]) hx hb d_law_17 rfl hl (by decide) rfl (fun ls hl => ?_)
  refine lv_iload_n hx hb d_law_18 rfl (lv_at hl 0 rfl) ?_
  refine lv_aload_n hx hb d_law_19 rfl (lv_at hl 3 rfl) ?_
  refine va_slen hx hb hX hbl hbA hS d_law_20 ?_
  refine lv_topi (fun x79 ex79 => ?_)
  obtain rfl : x79 = (0 : Int32) := ex79.trans (by decide)
  refine lv_iconst (v := 4) hx hb d_law_21 (by decide) ?_
  refine lv_isub hx hb d_law_22 ?_
  refine lv_topi (fun x80 ex80 => ?_)
  obtain rfl : x80 = (-4 : Int32) := ex80.trans (by decide)
  refine lv_icmp_gt (tgt := 429) hx hb d_law_23 (by decide) (fun _ => ?_) (fun c9 => absurd (by decide) c9)
  refine lv_iconst (v := 1) hx hb d_law_429 (by decide) ?_
  refine va_forget (fun q hq => hAe _ (hS.2.2 q hq)) ?_
  refine W.widen (k := 60000) (n := 8922250) (Nat.le_of_ble_eq_true rfl) (Nat.le_of_ble_eq_true rfl) ?_
  exact lw_ret hx hb hr hlocks d_law_430

set_option maxHeartbeats 4000000 in
set_option maxRecDepth 100000 in
theorem law_1 {p : Program} {e : Env} {s : State} {m : MethodId} {below : List Frame} {meth : Method} {c : Code} {b : Nat} {xs : Nat → Int32} {A : Nat → Prop} (l : Launch) (E : gk_E) (hAe : ∀ q, A q → s.heap.size ≤ q) (X : gk_X E p s m #[Value.ref b] meth c y_law b_law 4 ret A) (hX : va_X b 1 xs s s.heap) (hbl : b < s.heap.size) (ls : Array Slot) (hl : lv_has ls 4 [(0, .ref b)]) : W p l e room_1 s m #[Value.ref b] below meth c s.heap [] 0 0 (lw_Z below #[Value.ref b] s) (F0 m 0 ls []) := by
  have hx := X.1
  have hb := X.2.1
  have hown := X.2.2.2.1
  have hts := X.2.2.2.2.1
  have hr := X.2.2.2.2.2.2.2.2.1
  have hlocks : meth.locks = false := X.2.2.2.2.2.2.2.2.2.1
  have hbA : ¬ A b := fun h => Nat.not_le.mpr hbl (hAe b h)
  have hP : va_P E.1 gk_cl [] s.heap := fun k q h => by simp at h
  have hD : va_D A [] := ⟨fun i j p q h => by simp at h, fun k q h => by simp at h⟩
  have hS : va_S A s.heap s.heap [] := va_S.rf
  obtain ⟨s0, es0⟩ : ∃ z, z = xs (Int32.toNatClampNeg 0) := ⟨_, rfl⟩
  obtain ⟨s1, es1⟩ : ∃ z, z = xs (Int32.toNatClampNeg 1) := ⟨_, rfl⟩
  obtain ⟨s2, es2⟩ : ∃ z, z = xs (Int32.toNatClampNeg 2) := ⟨_, rfl⟩
  obtain ⟨s3, es3⟩ : ∃ z, z = xs (Int32.toNatClampNeg 3) := ⟨_, rfl⟩
  refine gk_new (ci := 0) (fs := df_Jt) X in_Jt t_Jt t_Jt_ok k_117 k_118 k_90 hP hD hS rfl df_Jt_ok (Nat.le_of_ble_eq_true rfl) (Nat.le_of_ble_eq_true rfl) d_law_0 (fun q1 H hP hD hS => ?_)
  have hP : va_P E.1 gk_cl [(q1, .inr (0, [.null, .null, .null, .null, .int 0, .null]))] H := hP
  have hD : va_D A [(q1, .inr (0, [.null, .null, .null, .null, .int 0, .null]))] := hD
  refine W.widen (k := 1) (n := 6) (by omega) (by omega) ?_
  refine lv_dup hx hb d_law_3 rfl ?_
  refine gk_back (wr := []) (gk_runI (As := []) (rest := [.ref q1]) X (c_Jt_init l E q1 H.size) ok_Jt_init (Or.inl k_119) k_120 rfl rfl hP hD hS [0] rfl rfl hl.1 rfl (Nat.le_of_ble_eq_true rfl) d_law_4 ⟨(Nat.le_of_ble_eq_true rfl), (Nat.le_of_ble_eq_true rfl)⟩ ⟨(Nat.le_of_ble_eq_true rfl), (Nat.le_of_ble_eq_true rfl)⟩) hP hD hS X.2.2.2.2.2.2.2.1 [0] [] rfl rfl rfl (by decide) (fun r w H locs hB hP hD hS => ?_)
  obtain ⟨q2, q3, q4, q5, q6, q7, q8, q9, q10, q11, q12, q13, q14, q15, q16, q17, q18, q19, q20, q21, q22, q23, rfl, rfl⟩ := hB
  have hP : va_P E.1 gk_cl [(q1, .inr (0, [.ref q2, .ref q3, .ref q4, .ref q5, .int 0, .null])), (q2, .inl (E.2.1 1, 3000, .inl (fun _ => 0))), (q3, .inr (1, [.ref q6, .ref q7, .ref q8, .ref q9, .int 0])), (q4, .inr (5, [.int 0, .ref E.2.2, .int 0])), (q5, .inr (2, [.ref q10, .ref q11, .ref q12, .ref q13, .ref q14, .ref q15, .ref q16, .int 0, .int 0, .long 0, .int 0, .int 0])), (q10, .inr (3, [.ref q17, .ref q18, .ref q19, .ref q20, .ref q21, .ref q22, .ref q23, .int 0]))] H := hP
  have hD : va_D A [(q1, .inr (0, [.ref q2, .ref q3, .ref q4, .ref q5, .int 0, .null])), (q2, .inl (E.2.1 1, 3000, .inl (fun _ => 0))), (q3, .inr (1, [.ref q6, .ref q7, .ref q8, .ref q9, .int 0])), (q4, .inr (5, [.int 0, .ref E.2.2, .int 0])), (q5, .inr (2, [.ref q10, .ref q11, .ref q12, .ref q13, .ref q14, .ref q15, .ref q16, .int 0, .int 0, .long 0, .int 0, .int 0])), (q10, .inr (3, [.ref q17, .ref q18, .ref q19, .ref q20, .ref q21, .ref q22, .ref q23, .int 0]))] := hD
  refine W.widen (k := 30) (n := 4306) (by omega) (by omega) ?_
  refine lv_astore_n (lv' := [(1, .ref q1), (0, .ref b)]) hx hb d_law_7 rfl hl (by decide) rfl (fun ls hl => ?_)
  refine gk_new (ci := 10) (fs := df_Mo) X in_Mo t_Mo t_Mo_ok k_1346 k_1347 k_102 hP hD hS rfl df_Mo_ok (Nat.le_of_ble_eq_true rfl) (Nat.le_of_ble_eq_true rfl) d_law_8 (fun q24 H hP hD hS => ?_)
  have hP : va_P E.1 gk_cl [(q1, .inr (0, [.ref q2, .ref q3, .ref q4, .ref q5, .int 0, .null])), (q2, .inl (E.2.1 1, 3000, .inl (fun _ => 0))), (q3, .inr (1, [.ref q6, .ref q7, .ref q8, .ref q9, .int 0])), (q4, .inr (5, [.int 0, .ref E.2.2, .int 0])), (q5, .inr (2, [.ref q10, .ref q11, .ref q12, .ref q13, .ref q14, .ref q15, .ref q16, .int 0, .int 0, .long 0, .int 0, .int 0])), (q10, .inr (3, [.ref q17, .ref q18, .ref q19, .ref q20, .ref q21, .ref q22, .ref q23, .int 0])), (q24, .inr (10, [.int 0, .null, .null, .int 0, .null, .null, .null, .null, .null, .null, .null, .null, .null, .null, .null, .null, .null, .null, .null, .int 0, .int 0, .int 0, .int 0, .null, .null, .null, .null, .int 0, .int 0, .null, .null, .int 0, .int 0, .int 0, .int 0, .int 0, .int 0, .int 0, .int 0, .null, .int 0, .int 0, .int 0, .int 0, .null, .null, .null, .null, .null, .null, .null, .null, .int 0, .int 0, .null, .null, .null, .int 0, .null, .null, .null, .null, .null, .null, .null, .null, .null, .int 0, .null, .null, .null, .null, .null, .int 0, .null, .null, .null, .int 0, .int 0, .null, .null]))] H := hP
  have hD : va_D A [(q1, .inr (0, [.ref q2, .ref q3, .ref q4, .ref q5, .int 0, .null])), (q2, .inl (E.2.1 1, 3000, .inl (fun _ => 0))), (q3, .inr (1, [.ref q6, .ref q7, .ref q8, .ref q9, .int 0])), (q4, .inr (5, [.int 0, .ref E.2.2, .int 0])), (q5, .inr (2, [.ref q10, .ref q11, .ref q12, .ref q13, .ref q14, .ref q15, .ref q16, .int 0, .int 0, .long 0, .int 0, .int 0])), (q10, .inr (3, [.ref q17, .ref q18, .ref q19, .ref q20, .ref q21, .ref q22, .ref q23, .int 0])), (q24, .inr (10, [.int 0, .null, .null, .int 0, .null, .null, .null, .null, .null, .null, .null, .null, .null, .null, .null, .null, .null, .null, .null, .int 0, .int 0, .int 0, .int 0, .null, .null, .null, .null, .int 0, .int 0, .null, .null, .int 0, .int 0, .int 0, .int 0, .int 0, .int 0, .int 0, .int 0, .null, .int 0, .int 0, .int 0, .int 0, .null, .null, .null, .null, .null, .null, .null, .null, .int 0, .int 0, .null, .null, .null, .int 0, .null, .null, .null, .null, .null, .null, .null, .null, .null, .int 0, .null, .null, .null, .null, .null, .int 0, .null, .null, .null, .int 0, .int 0, .null, .null]))] := hD
  refine W.widen (k := 31) (n := 4387) (by omega) (by omega) ?_
  refine lv_dup hx hb d_law_11 rfl ?_
  refine gk_back (wr := [(q1, .inr (0, [.ref q2, .ref q3, .ref q4, .ref q5, .int 0, .null])), (q2, .inl (E.2.1 1, 3000, .inl (fun _ => 0))), (q3, .inr (1, [.ref q6, .ref q7, .ref q8, .ref q9, .int 0])), (q4, .inr (5, [.int 0, .ref E.2.2, .int 0])), (q5, .inr (2, [.ref q10, .ref q11, .ref q12, .ref q13, .ref q14, .ref q15, .ref q16, .int 0, .int 0, .long 0, .int 0, .int 0])), (q10, .inr (3, [.ref q17, .ref q18, .ref q19, .ref q20, .ref q21, .ref q22, .ref q23, .int 0]))]) (gk_runI (As := []) (rest := [.ref q24]) X (c_Mo_init l E q24 H.size) ok_Mo_init (Or.inl k_1348) k_1349 rfl rfl hP hD hS [6] rfl rfl hl.1 rfl (Nat.le_of_ble_eq_true rfl) d_law_12 ⟨(Nat.le_of_ble_eq_true rfl), (Nat.le_of_ble_eq_true rfl)⟩ ⟨(Nat.le_of_ble_eq_true rfl), (Nat.le_of_ble_eq_true rfl)⟩) hP hD hS X.2.2.2.2.2.2.2.1 [6] [0, 1, 2, 3, 4, 5] rfl rfl rfl (by decide) (fun r w H locs hB hP hD hS => ?_)
  obtain ⟨q25, q26, q27, q28, q29, q30, q31, q32, q33, q34, q35, q36, q37, q38, q39, q40, q41, q42, q43, q44, q45, q46, q47, q48, q49, q50, q51, q52, q53, q54, q55, q56, q57, q58, q59, q60, q61, q62, q63, q64, q65, q66, q67, q68, q69, q70, q71, q72, q73, q74, q75, q76, q77, q78, rfl, rfl⟩ := hB
  have hP : va_P E.1 gk_cl [(q1, .inr (0, [.ref q2, .ref q3, .ref q4, .ref q5, .int 0, .null])), (q2, .inl (E.2.1 1, 3000, .inl (fun _ => 0))), (q3, .inr (1, [.ref q6, .ref q7, .ref q8, .ref q9, .int 0])), (q4, .inr (5, [.int 0, .ref E.2.2, .int 0])), (q5, .inr (2, [.ref q10, .ref q11, .ref q12, .ref q13, .ref q14, .ref q15, .ref q16, .int 0, .int 0, .long 0, .int 0, .int 0])), (q10, .inr (3, [.ref q17, .ref q18, .ref q19, .ref q20, .ref q21, .ref q22, .ref q23, .int 0])), (q24, .inr (10, [.int 0, .ref q25, .ref q26, .int 0, .ref q27, .ref q28, .ref q29, .ref q30, .ref q31, .ref q32, .ref q33, .ref q34, .ref q35, .ref q36, .ref q37, .ref q38, .ref q39, .ref q40, .ref q41, .int 0, .int 0, .int 0, .int 0, .ref q42, .ref q43, .ref q44, .ref q45, .int 0, .int 0, .ref q46, .ref q47, .int 0, .int 0, .int 0, .int 0, .int 0, .int 0, .int 0, .int 0, .ref q48, .int 0, .int 0, .int 0, .int 0, .ref q49, .ref q50, .ref q51, .ref q52, .ref q53, .ref q54, .ref q55, .ref q56, .int 0, .int 0, .ref q57, .ref q58, .ref q59, .int 0, .ref q60, .ref q61, .ref q62, .ref q63, .ref q64, .ref q65, .ref q66, .ref q67, .ref q68, .int 0, .ref q69, .ref q70, .ref q71, .ref q72, .ref q73, .int 0, .ref q74, .ref q75, .ref q76, .int 0, .int 0, .ref q77, .ref q78])), (q27, .inl (E.2.1 0, 13, .inl (fun _ => 0))), (q26, .inl (E.2.1 0, 3000, .inl (fun _ => 0)))] H := hP
  have hD : va_D A [(q1, .inr (0, [.ref q2, .ref q3, .ref q4, .ref q5, .int 0, .null])), (q2, .inl (E.2.1 1, 3000, .inl (fun _ => 0))), (q3, .inr (1, [.ref q6, .ref q7, .ref q8, .ref q9, .int 0])), (q4, .inr (5, [.int 0, .ref E.2.2, .int 0])), (q5, .inr (2, [.ref q10, .ref q11, .ref q12, .ref q13, .ref q14, .ref q15, .ref q16, .int 0, .int 0, .long 0, .int 0, .int 0])), (q10, .inr (3, [.ref q17, .ref q18, .ref q19, .ref q20, .ref q21, .ref q22, .ref q23, .int 0])), (q24, .inr (10, [.int 0, .ref q25, .ref q26, .int 0, .ref q27, .ref q28, .ref q29, .ref q30, .ref q31, .ref q32, .ref q33, .ref q34, .ref q35, .ref q36, .ref q37, .ref q38, .ref q39, .ref q40, .ref q41, .int 0, .int 0, .int 0, .int 0, .ref q42, .ref q43, .ref q44, .ref q45, .int 0, .int 0, .ref q46, .ref q47, .int 0, .int 0, .int 0, .int 0, .int 0, .int 0, .int 0, .int 0, .ref q48, .int 0, .int 0, .int 0, .int 0, .ref q49, .ref q50, .ref q51, .ref q52, .ref q53, .ref q54, .ref q55, .ref q56, .int 0, .int 0, .ref q57, .ref q58, .ref q59, .int 0, .ref q60, .ref q61, .ref q62, .ref q63, .ref q64, .ref q65, .ref q66, .ref q67, .ref q68, .int 0, .ref q69, .ref q70, .ref q71, .ref q72, .ref q73, .int 0, .ref q74, .ref q75, .ref q76, .int 0, .int 0, .ref q77, .ref q78])), (q27, .inl (E.2.1 0, 13, .inl (fun _ => 0))), (q26, .inl (E.2.1 0, 3000, .inl (fun _ => 0)))] := hD
  refine W.widen (k := 85) (n := 1318515) (by omega) (by omega) ?_
  refine lv_astore_n (lv' := [(2, .ref q24), (1, .ref q1), (0, .ref b)]) hx hb d_law_15 rfl hl (by decide) rfl (fun ls hl => ?_)
  refine lv_iconst (v := 0) hx hb d_law_16 (by decide) ?_
  refine lv_istore_n (lv' := [(3, .int 0), (2, .ref q24), (1, .ref q1), (0, .ref b)]) hx hb d_law_17 rfl hl (by decide) rfl (fun ls hl => ?_)
  refine lv_iload_n hx hb d_law_18 rfl (lv_at hl 0 rfl) ?_
  refine lv_aload_n hx hb d_law_19 rfl (lv_at hl 3 rfl) ?_
  refine va_slen hx hb hX hbl hbA hS d_law_20 ?_
  refine lv_topi (fun x79 ex79 => ?_)
  obtain rfl : x79 = (1 : Int32) := ex79.trans (by decide)
  refine lv_iconst (v := 4) hx hb d_law_21 (by decide) ?_
  refine lv_isub hx hb d_law_22 ?_
  refine lv_topi (fun x80 ex80 => ?_)
  obtain rfl : x80 = (-3 : Int32) := ex80.trans (by decide)
  refine lv_icmp_gt (tgt := 429) hx hb d_law_23 (by decide) (fun _ => ?_) (fun c9 => absurd (by decide) c9)
  refine lv_iconst (v := 1) hx hb d_law_429 (by decide) ?_
  refine va_forget (fun q hq => hAe _ (hS.2.2 q hq)) ?_
  refine W.widen (k := 60000) (n := 8922250) (Nat.le_of_ble_eq_true rfl) (Nat.le_of_ble_eq_true rfl) ?_
  exact lw_ret hx hb hr hlocks d_law_430

set_option maxHeartbeats 4000000 in
set_option maxRecDepth 100000 in
theorem law_2 {p : Program} {e : Env} {s : State} {m : MethodId} {below : List Frame} {meth : Method} {c : Code} {b : Nat} {xs : Nat → Int32} {A : Nat → Prop} (l : Launch) (E : gk_E) (hAe : ∀ q, A q → s.heap.size ≤ q) (X : gk_X E p s m #[Value.ref b] meth c y_law b_law 4 ret A) (hX : va_X b 2 xs s s.heap) (hbl : b < s.heap.size) (ls : Array Slot) (hl : lv_has ls 4 [(0, .ref b)]) : W p l e room_1 s m #[Value.ref b] below meth c s.heap [] 0 0 (lw_Z below #[Value.ref b] s) (F0 m 0 ls []) := by
  have hx := X.1
  have hb := X.2.1
  have hown := X.2.2.2.1
  have hts := X.2.2.2.2.1
  have hr := X.2.2.2.2.2.2.2.2.1
  have hlocks : meth.locks = false := X.2.2.2.2.2.2.2.2.2.1
  have hbA : ¬ A b := fun h => Nat.not_le.mpr hbl (hAe b h)
  have hP : va_P E.1 gk_cl [] s.heap := fun k q h => by simp at h
  have hD : va_D A [] := ⟨fun i j p q h => by simp at h, fun k q h => by simp at h⟩
  have hS : va_S A s.heap s.heap [] := va_S.rf
  obtain ⟨s0, es0⟩ : ∃ z, z = xs (Int32.toNatClampNeg 0) := ⟨_, rfl⟩
  obtain ⟨s1, es1⟩ : ∃ z, z = xs (Int32.toNatClampNeg 1) := ⟨_, rfl⟩
  obtain ⟨s2, es2⟩ : ∃ z, z = xs (Int32.toNatClampNeg 2) := ⟨_, rfl⟩
  obtain ⟨s3, es3⟩ : ∃ z, z = xs (Int32.toNatClampNeg 3) := ⟨_, rfl⟩
  refine gk_new (ci := 0) (fs := df_Jt) X in_Jt t_Jt t_Jt_ok k_117 k_118 k_90 hP hD hS rfl df_Jt_ok (Nat.le_of_ble_eq_true rfl) (Nat.le_of_ble_eq_true rfl) d_law_0 (fun q1 H hP hD hS => ?_)
  have hP : va_P E.1 gk_cl [(q1, .inr (0, [.null, .null, .null, .null, .int 0, .null]))] H := hP
  have hD : va_D A [(q1, .inr (0, [.null, .null, .null, .null, .int 0, .null]))] := hD
  refine W.widen (k := 1) (n := 6) (by omega) (by omega) ?_
  refine lv_dup hx hb d_law_3 rfl ?_
  refine gk_back (wr := []) (gk_runI (As := []) (rest := [.ref q1]) X (c_Jt_init l E q1 H.size) ok_Jt_init (Or.inl k_119) k_120 rfl rfl hP hD hS [0] rfl rfl hl.1 rfl (Nat.le_of_ble_eq_true rfl) d_law_4 ⟨(Nat.le_of_ble_eq_true rfl), (Nat.le_of_ble_eq_true rfl)⟩ ⟨(Nat.le_of_ble_eq_true rfl), (Nat.le_of_ble_eq_true rfl)⟩) hP hD hS X.2.2.2.2.2.2.2.1 [0] [] rfl rfl rfl (by decide) (fun r w H locs hB hP hD hS => ?_)
  obtain ⟨q2, q3, q4, q5, q6, q7, q8, q9, q10, q11, q12, q13, q14, q15, q16, q17, q18, q19, q20, q21, q22, q23, rfl, rfl⟩ := hB
  have hP : va_P E.1 gk_cl [(q1, .inr (0, [.ref q2, .ref q3, .ref q4, .ref q5, .int 0, .null])), (q2, .inl (E.2.1 1, 3000, .inl (fun _ => 0))), (q3, .inr (1, [.ref q6, .ref q7, .ref q8, .ref q9, .int 0])), (q4, .inr (5, [.int 0, .ref E.2.2, .int 0])), (q5, .inr (2, [.ref q10, .ref q11, .ref q12, .ref q13, .ref q14, .ref q15, .ref q16, .int 0, .int 0, .long 0, .int 0, .int 0])), (q10, .inr (3, [.ref q17, .ref q18, .ref q19, .ref q20, .ref q21, .ref q22, .ref q23, .int 0]))] H := hP
  have hD : va_D A [(q1, .inr (0, [.ref q2, .ref q3, .ref q4, .ref q5, .int 0, .null])), (q2, .inl (E.2.1 1, 3000, .inl (fun _ => 0))), (q3, .inr (1, [.ref q6, .ref q7, .ref q8, .ref q9, .int 0])), (q4, .inr (5, [.int 0, .ref E.2.2, .int 0])), (q5, .inr (2, [.ref q10, .ref q11, .ref q12, .ref q13, .ref q14, .ref q15, .ref q16, .int 0, .int 0, .long 0, .int 0, .int 0])), (q10, .inr (3, [.ref q17, .ref q18, .ref q19, .ref q20, .ref q21, .ref q22, .ref q23, .int 0]))] := hD
  refine W.widen (k := 30) (n := 4306) (by omega) (by omega) ?_
  refine lv_astore_n (lv' := [(1, .ref q1), (0, .ref b)]) hx hb d_law_7 rfl hl (by decide) rfl (fun ls hl => ?_)
  refine gk_new (ci := 10) (fs := df_Mo) X in_Mo t_Mo t_Mo_ok k_1346 k_1347 k_102 hP hD hS rfl df_Mo_ok (Nat.le_of_ble_eq_true rfl) (Nat.le_of_ble_eq_true rfl) d_law_8 (fun q24 H hP hD hS => ?_)
  have hP : va_P E.1 gk_cl [(q1, .inr (0, [.ref q2, .ref q3, .ref q4, .ref q5, .int 0, .null])), (q2, .inl (E.2.1 1, 3000, .inl (fun _ => 0))), (q3, .inr (1, [.ref q6, .ref q7, .ref q8, .ref q9, .int 0])), (q4, .inr (5, [.int 0, .ref E.2.2, .int 0])), (q5, .inr (2, [.ref q10, .ref q11, .ref q12, .ref q13, .ref q14, .ref q15, .ref q16, .int 0, .int 0, .long 0, .int 0, .int 0])), (q10, .inr (3, [.ref q17, .ref q18, .ref q19, .ref q20, .ref q21, .ref q22, .ref q23, .int 0])), (q24, .inr (10, [.int 0, .null, .null, .int 0, .null, .null, .null, .null, .null, .null, .null, .null, .null, .null, .null, .null, .null, .null, .null, .int 0, .int 0, .int 0, .int 0, .null, .null, .null, .null, .int 0, .int 0, .null, .null, .int 0, .int 0, .int 0, .int 0, .int 0, .int 0, .int 0, .int 0, .null, .int 0, .int 0, .int 0, .int 0, .null, .null, .null, .null, .null, .null, .null, .null, .int 0, .int 0, .null, .null, .null, .int 0, .null, .null, .null, .null, .null, .null, .null, .null, .null, .int 0, .null, .null, .null, .null, .null, .int 0, .null, .null, .null, .int 0, .int 0, .null, .null]))] H := hP
  have hD : va_D A [(q1, .inr (0, [.ref q2, .ref q3, .ref q4, .ref q5, .int 0, .null])), (q2, .inl (E.2.1 1, 3000, .inl (fun _ => 0))), (q3, .inr (1, [.ref q6, .ref q7, .ref q8, .ref q9, .int 0])), (q4, .inr (5, [.int 0, .ref E.2.2, .int 0])), (q5, .inr (2, [.ref q10, .ref q11, .ref q12, .ref q13, .ref q14, .ref q15, .ref q16, .int 0, .int 0, .long 0, .int 0, .int 0])), (q10, .inr (3, [.ref q17, .ref q18, .ref q19, .ref q20, .ref q21, .ref q22, .ref q23, .int 0])), (q24, .inr (10, [.int 0, .null, .null, .int 0, .null, .null, .null, .null, .null, .null, .null, .null, .null, .null, .null, .null, .null, .null, .null, .int 0, .int 0, .int 0, .int 0, .null, .null, .null, .null, .int 0, .int 0, .null, .null, .int 0, .int 0, .int 0, .int 0, .int 0, .int 0, .int 0, .int 0, .null, .int 0, .int 0, .int 0, .int 0, .null, .null, .null, .null, .null, .null, .null, .null, .int 0, .int 0, .null, .null, .null, .int 0, .null, .null, .null, .null, .null, .null, .null, .null, .null, .int 0, .null, .null, .null, .null, .null, .int 0, .null, .null, .null, .int 0, .int 0, .null, .null]))] := hD
  refine W.widen (k := 31) (n := 4387) (by omega) (by omega) ?_
  refine lv_dup hx hb d_law_11 rfl ?_
  refine gk_back (wr := [(q1, .inr (0, [.ref q2, .ref q3, .ref q4, .ref q5, .int 0, .null])), (q2, .inl (E.2.1 1, 3000, .inl (fun _ => 0))), (q3, .inr (1, [.ref q6, .ref q7, .ref q8, .ref q9, .int 0])), (q4, .inr (5, [.int 0, .ref E.2.2, .int 0])), (q5, .inr (2, [.ref q10, .ref q11, .ref q12, .ref q13, .ref q14, .ref q15, .ref q16, .int 0, .int 0, .long 0, .int 0, .int 0])), (q10, .inr (3, [.ref q17, .ref q18, .ref q19, .ref q20, .ref q21, .ref q22, .ref q23, .int 0]))]) (gk_runI (As := []) (rest := [.ref q24]) X (c_Mo_init l E q24 H.size) ok_Mo_init (Or.inl k_1348) k_1349 rfl rfl hP hD hS [6] rfl rfl hl.1 rfl (Nat.le_of_ble_eq_true rfl) d_law_12 ⟨(Nat.le_of_ble_eq_true rfl), (Nat.le_of_ble_eq_true rfl)⟩ ⟨(Nat.le_of_ble_eq_true rfl), (Nat.le_of_ble_eq_true rfl)⟩) hP hD hS X.2.2.2.2.2.2.2.1 [6] [0, 1, 2, 3, 4, 5] rfl rfl rfl (by decide) (fun r w H locs hB hP hD hS => ?_)
  obtain ⟨q25, q26, q27, q28, q29, q30, q31, q32, q33, q34, q35, q36, q37, q38, q39, q40, q41, q42, q43, q44, q45, q46, q47, q48, q49, q50, q51, q52, q53, q54, q55, q56, q57, q58, q59, q60, q61, q62, q63, q64, q65, q66, q67, q68, q69, q70, q71, q72, q73, q74, q75, q76, q77, q78, rfl, rfl⟩ := hB
  have hP : va_P E.1 gk_cl [(q1, .inr (0, [.ref q2, .ref q3, .ref q4, .ref q5, .int 0, .null])), (q2, .inl (E.2.1 1, 3000, .inl (fun _ => 0))), (q3, .inr (1, [.ref q6, .ref q7, .ref q8, .ref q9, .int 0])), (q4, .inr (5, [.int 0, .ref E.2.2, .int 0])), (q5, .inr (2, [.ref q10, .ref q11, .ref q12, .ref q13, .ref q14, .ref q15, .ref q16, .int 0, .int 0, .long 0, .int 0, .int 0])), (q10, .inr (3, [.ref q17, .ref q18, .ref q19, .ref q20, .ref q21, .ref q22, .ref q23, .int 0])), (q24, .inr (10, [.int 0, .ref q25, .ref q26, .int 0, .ref q27, .ref q28, .ref q29, .ref q30, .ref q31, .ref q32, .ref q33, .ref q34, .ref q35, .ref q36, .ref q37, .ref q38, .ref q39, .ref q40, .ref q41, .int 0, .int 0, .int 0, .int 0, .ref q42, .ref q43, .ref q44, .ref q45, .int 0, .int 0, .ref q46, .ref q47, .int 0, .int 0, .int 0, .int 0, .int 0, .int 0, .int 0, .int 0, .ref q48, .int 0, .int 0, .int 0, .int 0, .ref q49, .ref q50, .ref q51, .ref q52, .ref q53, .ref q54, .ref q55, .ref q56, .int 0, .int 0, .ref q57, .ref q58, .ref q59, .int 0, .ref q60, .ref q61, .ref q62, .ref q63, .ref q64, .ref q65, .ref q66, .ref q67, .ref q68, .int 0, .ref q69, .ref q70, .ref q71, .ref q72, .ref q73, .int 0, .ref q74, .ref q75, .ref q76, .int 0, .int 0, .ref q77, .ref q78])), (q27, .inl (E.2.1 0, 13, .inl (fun _ => 0))), (q26, .inl (E.2.1 0, 3000, .inl (fun _ => 0)))] H := hP
  have hD : va_D A [(q1, .inr (0, [.ref q2, .ref q3, .ref q4, .ref q5, .int 0, .null])), (q2, .inl (E.2.1 1, 3000, .inl (fun _ => 0))), (q3, .inr (1, [.ref q6, .ref q7, .ref q8, .ref q9, .int 0])), (q4, .inr (5, [.int 0, .ref E.2.2, .int 0])), (q5, .inr (2, [.ref q10, .ref q11, .ref q12, .ref q13, .ref q14, .ref q15, .ref q16, .int 0, .int 0, .long 0, .int 0, .int 0])), (q10, .inr (3, [.ref q17, .ref q18, .ref q19, .ref q20, .ref q21, .ref q22, .ref q23, .int 0])), (q24, .inr (10, [.int 0, .ref q25, .ref q26, .int 0, .ref q27, .ref q28, .ref q29, .ref q30, .ref q31, .ref q32, .ref q33, .ref q34, .ref q35, .ref q36, .ref q37, .ref q38, .ref q39, .ref q40, .ref q41, .int 0, .int 0, .int 0, .int 0, .ref q42, .ref q43, .ref q44, .ref q45, .int 0, .int 0, .ref q46, .ref q47, .int 0, .int 0, .int 0, .int 0, .int 0, .int 0, .int 0, .int 0, .ref q48, .int 0, .int 0, .int 0, .int 0, .ref q49, .ref q50, .ref q51, .ref q52, .ref q53, .ref q54, .ref q55, .ref q56, .int 0, .int 0, .ref q57, .ref q58, .ref q59, .int 0, .ref q60, .ref q61, .ref q62, .ref q63, .ref q64, .ref q65, .ref q66, .ref q67, .ref q68, .int 0, .ref q69, .ref q70, .ref q71, .ref q72, .ref q73, .int 0, .ref q74, .ref q75, .ref q76, .int 0, .int 0, .ref q77, .ref q78])), (q27, .inl (E.2.1 0, 13, .inl (fun _ => 0))), (q26, .inl (E.2.1 0, 3000, .inl (fun _ => 0)))] := hD
  refine W.widen (k := 85) (n := 1318515) (by omega) (by omega) ?_
  refine lv_astore_n (lv' := [(2, .ref q24), (1, .ref q1), (0, .ref b)]) hx hb d_law_15 rfl hl (by decide) rfl (fun ls hl => ?_)
  refine lv_iconst (v := 0) hx hb d_law_16 (by decide) ?_
  refine lv_istore_n (lv' := [(3, .int 0), (2, .ref q24), (1, .ref q1), (0, .ref b)]) hx hb d_law_17 rfl hl (by decide) rfl (fun ls hl => ?_)
  refine lv_iload_n hx hb d_law_18 rfl (lv_at hl 0 rfl) ?_
  refine lv_aload_n hx hb d_law_19 rfl (lv_at hl 3 rfl) ?_
  refine va_slen hx hb hX hbl hbA hS d_law_20 ?_
  refine lv_topi (fun x79 ex79 => ?_)
  obtain rfl : x79 = (2 : Int32) := ex79.trans (by decide)
  refine lv_iconst (v := 4) hx hb d_law_21 (by decide) ?_
  refine lv_isub hx hb d_law_22 ?_
  refine lv_topi (fun x80 ex80 => ?_)
  obtain rfl : x80 = (-2 : Int32) := ex80.trans (by decide)
  refine lv_icmp_gt (tgt := 429) hx hb d_law_23 (by decide) (fun _ => ?_) (fun c9 => absurd (by decide) c9)
  refine lv_iconst (v := 1) hx hb d_law_429 (by decide) ?_
  refine va_forget (fun q hq => hAe _ (hS.2.2 q hq)) ?_
  refine W.widen (k := 60000) (n := 8922250) (Nat.le_of_ble_eq_true rfl) (Nat.le_of_ble_eq_true rfl) ?_
  exact lw_ret hx hb hr hlocks d_law_430

set_option maxHeartbeats 4000000 in
set_option maxRecDepth 100000 in
theorem law_3 {p : Program} {e : Env} {s : State} {m : MethodId} {below : List Frame} {meth : Method} {c : Code} {b : Nat} {xs : Nat → Int32} {A : Nat → Prop} (l : Launch) (E : gk_E) (hAe : ∀ q, A q → s.heap.size ≤ q) (X : gk_X E p s m #[Value.ref b] meth c y_law b_law 4 ret A) (hX : va_X b 3 xs s s.heap) (hbl : b < s.heap.size) (ls : Array Slot) (hl : lv_has ls 4 [(0, .ref b)]) : W p l e room_1 s m #[Value.ref b] below meth c s.heap [] 0 0 (lw_Z below #[Value.ref b] s) (F0 m 0 ls []) := by
  have hx := X.1
  have hb := X.2.1
  have hown := X.2.2.2.1
  have hts := X.2.2.2.2.1
  have hr := X.2.2.2.2.2.2.2.2.1
  have hlocks : meth.locks = false := X.2.2.2.2.2.2.2.2.2.1
  have hbA : ¬ A b := fun h => Nat.not_le.mpr hbl (hAe b h)
  have hP : va_P E.1 gk_cl [] s.heap := fun k q h => by simp at h
  have hD : va_D A [] := ⟨fun i j p q h => by simp at h, fun k q h => by simp at h⟩
  have hS : va_S A s.heap s.heap [] := va_S.rf
  obtain ⟨s0, es0⟩ : ∃ z, z = xs (Int32.toNatClampNeg 0) := ⟨_, rfl⟩
  obtain ⟨s1, es1⟩ : ∃ z, z = xs (Int32.toNatClampNeg 1) := ⟨_, rfl⟩
  obtain ⟨s2, es2⟩ : ∃ z, z = xs (Int32.toNatClampNeg 2) := ⟨_, rfl⟩
  obtain ⟨s3, es3⟩ : ∃ z, z = xs (Int32.toNatClampNeg 3) := ⟨_, rfl⟩
  refine gk_new (ci := 0) (fs := df_Jt) X in_Jt t_Jt t_Jt_ok k_117 k_118 k_90 hP hD hS rfl df_Jt_ok (Nat.le_of_ble_eq_true rfl) (Nat.le_of_ble_eq_true rfl) d_law_0 (fun q1 H hP hD hS => ?_)
  have hP : va_P E.1 gk_cl [(q1, .inr (0, [.null, .null, .null, .null, .int 0, .null]))] H := hP
  have hD : va_D A [(q1, .inr (0, [.null, .null, .null, .null, .int 0, .null]))] := hD
  refine W.widen (k := 1) (n := 6) (by omega) (by omega) ?_
  refine lv_dup hx hb d_law_3 rfl ?_
  refine gk_back (wr := []) (gk_runI (As := []) (rest := [.ref q1]) X (c_Jt_init l E q1 H.size) ok_Jt_init (Or.inl k_119) k_120 rfl rfl hP hD hS [0] rfl rfl hl.1 rfl (Nat.le_of_ble_eq_true rfl) d_law_4 ⟨(Nat.le_of_ble_eq_true rfl), (Nat.le_of_ble_eq_true rfl)⟩ ⟨(Nat.le_of_ble_eq_true rfl), (Nat.le_of_ble_eq_true rfl)⟩) hP hD hS X.2.2.2.2.2.2.2.1 [0] [] rfl rfl rfl (by decide) (fun r w H locs hB hP hD hS => ?_)
  obtain ⟨q2, q3, q4, q5, q6, q7, q8, q9, q10, q11, q12, q13, q14, q15, q16, q17, q18, q19, q20, q21, q22, q23, rfl, rfl⟩ := hB
  have hP : va_P E.1 gk_cl [(q1, .inr (0, [.ref q2, .ref q3, .ref q4, .ref q5, .int 0, .null])), (q2, .inl (E.2.1 1, 3000, .inl (fun _ => 0))), (q3, .inr (1, [.ref q6, .ref q7, .ref q8, .ref q9, .int 0])), (q4, .inr (5, [.int 0, .ref E.2.2, .int 0])), (q5, .inr (2, [.ref q10, .ref q11, .ref q12, .ref q13, .ref q14, .ref q15, .ref q16, .int 0, .int 0, .long 0, .int 0, .int 0])), (q10, .inr (3, [.ref q17, .ref q18, .ref q19, .ref q20, .ref q21, .ref q22, .ref q23, .int 0]))] H := hP
  have hD : va_D A [(q1, .inr (0, [.ref q2, .ref q3, .ref q4, .ref q5, .int 0, .null])), (q2, .inl (E.2.1 1, 3000, .inl (fun _ => 0))), (q3, .inr (1, [.ref q6, .ref q7, .ref q8, .ref q9, .int 0])), (q4, .inr (5, [.int 0, .ref E.2.2, .int 0])), (q5, .inr (2, [.ref q10, .ref q11, .ref q12, .ref q13, .ref q14, .ref q15, .ref q16, .int 0, .int 0, .long 0, .int 0, .int 0])), (q10, .inr (3, [.ref q17, .ref q18, .ref q19, .ref q20, .ref q21, .ref q22, .ref q23, .int 0]))] := hD
  refine W.widen (k := 30) (n := 4306) (by omega) (by omega) ?_
  refine lv_astore_n (lv' := [(1, .ref q1), (0, .ref b)]) hx hb d_law_7 rfl hl (by decide) rfl (fun ls hl => ?_)
  refine gk_new (ci := 10) (fs := df_Mo) X in_Mo t_Mo t_Mo_ok k_1346 k_1347 k_102 hP hD hS rfl df_Mo_ok (Nat.le_of_ble_eq_true rfl) (Nat.le_of_ble_eq_true rfl) d_law_8 (fun q24 H hP hD hS => ?_)
  have hP : va_P E.1 gk_cl [(q1, .inr (0, [.ref q2, .ref q3, .ref q4, .ref q5, .int 0, .null])), (q2, .inl (E.2.1 1, 3000, .inl (fun _ => 0))), (q3, .inr (1, [.ref q6, .ref q7, .ref q8, .ref q9, .int 0])), (q4, .inr (5, [.int 0, .ref E.2.2, .int 0])), (q5, .inr (2, [.ref q10, .ref q11, .ref q12, .ref q13, .ref q14, .ref q15, .ref q16, .int 0, .int 0, .long 0, .int 0, .int 0])), (q10, .inr (3, [.ref q17, .ref q18, .ref q19, .ref q20, .ref q21, .ref q22, .ref q23, .int 0])), (q24, .inr (10, [.int 0, .null, .null, .int 0, .null, .null, .null, .null, .null, .null, .null, .null, .null, .null, .null, .null, .null, .null, .null, .int 0, .int 0, .int 0, .int 0, .null, .null, .null, .null, .int 0, .int 0, .null, .null, .int 0, .int 0, .int 0, .int 0, .int 0, .int 0, .int 0, .int 0, .null, .int 0, .int 0, .int 0, .int 0, .null, .null, .null, .null, .null, .null, .null, .null, .int 0, .int 0, .null, .null, .null, .int 0, .null, .null, .null, .null, .null, .null, .null, .null, .null, .int 0, .null, .null, .null, .null, .null, .int 0, .null, .null, .null, .int 0, .int 0, .null, .null]))] H := hP
  have hD : va_D A [(q1, .inr (0, [.ref q2, .ref q3, .ref q4, .ref q5, .int 0, .null])), (q2, .inl (E.2.1 1, 3000, .inl (fun _ => 0))), (q3, .inr (1, [.ref q6, .ref q7, .ref q8, .ref q9, .int 0])), (q4, .inr (5, [.int 0, .ref E.2.2, .int 0])), (q5, .inr (2, [.ref q10, .ref q11, .ref q12, .ref q13, .ref q14, .ref q15, .ref q16, .int 0, .int 0, .long 0, .int 0, .int 0])), (q10, .inr (3, [.ref q17, .ref q18, .ref q19, .ref q20, .ref q21, .ref q22, .ref q23, .int 0])), (q24, .inr (10, [.int 0, .null, .null, .int 0, .null, .null, .null, .null, .null, .null, .null, .null, .null, .null, .null, .null, .null, .null, .null, .int 0, .int 0, .int 0, .int 0, .null, .null, .null, .null, .int 0, .int 0, .null, .null, .int 0, .int 0, .int 0, .int 0, .int 0, .int 0, .int 0, .int 0, .null, .int 0, .int 0, .int 0, .int 0, .null, .null, .null, .null, .null, .null, .null, .null, .int 0, .int 0, .null, .null, .null, .int 0, .null, .null, .null, .null, .null, .null, .null, .null, .null, .int 0, .null, .null, .null, .null, .null, .int 0, .null, .null, .null, .int 0, .int 0, .null, .null]))] := hD
  refine W.widen (k := 31) (n := 4387) (by omega) (by omega) ?_
  refine lv_dup hx hb d_law_11 rfl ?_
  refine gk_back (wr := [(q1, .inr (0, [.ref q2, .ref q3, .ref q4, .ref q5, .int 0, .null])), (q2, .inl (E.2.1 1, 3000, .inl (fun _ => 0))), (q3, .inr (1, [.ref q6, .ref q7, .ref q8, .ref q9, .int 0])), (q4, .inr (5, [.int 0, .ref E.2.2, .int 0])), (q5, .inr (2, [.ref q10, .ref q11, .ref q12, .ref q13, .ref q14, .ref q15, .ref q16, .int 0, .int 0, .long 0, .int 0, .int 0])), (q10, .inr (3, [.ref q17, .ref q18, .ref q19, .ref q20, .ref q21, .ref q22, .ref q23, .int 0]))]) (gk_runI (As := []) (rest := [.ref q24]) X (c_Mo_init l E q24 H.size) ok_Mo_init (Or.inl k_1348) k_1349 rfl rfl hP hD hS [6] rfl rfl hl.1 rfl (Nat.le_of_ble_eq_true rfl) d_law_12 ⟨(Nat.le_of_ble_eq_true rfl), (Nat.le_of_ble_eq_true rfl)⟩ ⟨(Nat.le_of_ble_eq_true rfl), (Nat.le_of_ble_eq_true rfl)⟩) hP hD hS X.2.2.2.2.2.2.2.1 [6] [0, 1, 2, 3, 4, 5] rfl rfl rfl (by decide) (fun r w H locs hB hP hD hS => ?_)
  obtain ⟨q25, q26, q27, q28, q29, q30, q31, q32, q33, q34, q35, q36, q37, q38, q39, q40, q41, q42, q43, q44, q45, q46, q47, q48, q49, q50, q51, q52, q53, q54, q55, q56, q57, q58, q59, q60, q61, q62, q63, q64, q65, q66, q67, q68, q69, q70, q71, q72, q73, q74, q75, q76, q77, q78, rfl, rfl⟩ := hB
  have hP : va_P E.1 gk_cl [(q1, .inr (0, [.ref q2, .ref q3, .ref q4, .ref q5, .int 0, .null])), (q2, .inl (E.2.1 1, 3000, .inl (fun _ => 0))), (q3, .inr (1, [.ref q6, .ref q7, .ref q8, .ref q9, .int 0])), (q4, .inr (5, [.int 0, .ref E.2.2, .int 0])), (q5, .inr (2, [.ref q10, .ref q11, .ref q12, .ref q13, .ref q14, .ref q15, .ref q16, .int 0, .int 0, .long 0, .int 0, .int 0])), (q10, .inr (3, [.ref q17, .ref q18, .ref q19, .ref q20, .ref q21, .ref q22, .ref q23, .int 0])), (q24, .inr (10, [.int 0, .ref q25, .ref q26, .int 0, .ref q27, .ref q28, .ref q29, .ref q30, .ref q31, .ref q32, .ref q33, .ref q34, .ref q35, .ref q36, .ref q37, .ref q38, .ref q39, .ref q40, .ref q41, .int 0, .int 0, .int 0, .int 0, .ref q42, .ref q43, .ref q44, .ref q45, .int 0, .int 0, .ref q46, .ref q47, .int 0, .int 0, .int 0, .int 0, .int 0, .int 0, .int 0, .int 0, .ref q48, .int 0, .int 0, .int 0, .int 0, .ref q49, .ref q50, .ref q51, .ref q52, .ref q53, .ref q54, .ref q55, .ref q56, .int 0, .int 0, .ref q57, .ref q58, .ref q59, .int 0, .ref q60, .ref q61, .ref q62, .ref q63, .ref q64, .ref q65, .ref q66, .ref q67, .ref q68, .int 0, .ref q69, .ref q70, .ref q71, .ref q72, .ref q73, .int 0, .ref q74, .ref q75, .ref q76, .int 0, .int 0, .ref q77, .ref q78])), (q27, .inl (E.2.1 0, 13, .inl (fun _ => 0))), (q26, .inl (E.2.1 0, 3000, .inl (fun _ => 0)))] H := hP
  have hD : va_D A [(q1, .inr (0, [.ref q2, .ref q3, .ref q4, .ref q5, .int 0, .null])), (q2, .inl (E.2.1 1, 3000, .inl (fun _ => 0))), (q3, .inr (1, [.ref q6, .ref q7, .ref q8, .ref q9, .int 0])), (q4, .inr (5, [.int 0, .ref E.2.2, .int 0])), (q5, .inr (2, [.ref q10, .ref q11, .ref q12, .ref q13, .ref q14, .ref q15, .ref q16, .int 0, .int 0, .long 0, .int 0, .int 0])), (q10, .inr (3, [.ref q17, .ref q18, .ref q19, .ref q20, .ref q21, .ref q22, .ref q23, .int 0])), (q24, .inr (10, [.int 0, .ref q25, .ref q26, .int 0, .ref q27, .ref q28, .ref q29, .ref q30, .ref q31, .ref q32, .ref q33, .ref q34, .ref q35, .ref q36, .ref q37, .ref q38, .ref q39, .ref q40, .ref q41, .int 0, .int 0, .int 0, .int 0, .ref q42, .ref q43, .ref q44, .ref q45, .int 0, .int 0, .ref q46, .ref q47, .int 0, .int 0, .int 0, .int 0, .int 0, .int 0, .int 0, .int 0, .ref q48, .int 0, .int 0, .int 0, .int 0, .ref q49, .ref q50, .ref q51, .ref q52, .ref q53, .ref q54, .ref q55, .ref q56, .int 0, .int 0, .ref q57, .ref q58, .ref q59, .int 0, .ref q60, .ref q61, .ref q62, .ref q63, .ref q64, .ref q65, .ref q66, .ref q67, .ref q68, .int 0, .ref q69, .ref q70, .ref q71, .ref q72, .ref q73, .int 0, .ref q74, .ref q75, .ref q76, .int 0, .int 0, .ref q77, .ref q78])), (q27, .inl (E.2.1 0, 13, .inl (fun _ => 0))), (q26, .inl (E.2.1 0, 3000, .inl (fun _ => 0)))] := hD
  refine W.widen (k := 85) (n := 1318515) (by omega) (by omega) ?_
  refine lv_astore_n (lv' := [(2, .ref q24), (1, .ref q1), (0, .ref b)]) hx hb d_law_15 rfl hl (by decide) rfl (fun ls hl => ?_)
  refine lv_iconst (v := 0) hx hb d_law_16 (by decide) ?_
  refine lv_istore_n (lv' := [(3, .int 0), (2, .ref q24), (1, .ref q1), (0, .ref b)]) hx hb d_law_17 rfl hl (by decide) rfl (fun ls hl => ?_)
  refine lv_iload_n hx hb d_law_18 rfl (lv_at hl 0 rfl) ?_
  refine lv_aload_n hx hb d_law_19 rfl (lv_at hl 3 rfl) ?_
  refine va_slen hx hb hX hbl hbA hS d_law_20 ?_
  refine lv_topi (fun x79 ex79 => ?_)
  obtain rfl : x79 = (3 : Int32) := ex79.trans (by decide)
  refine lv_iconst (v := 4) hx hb d_law_21 (by decide) ?_
  refine lv_isub hx hb d_law_22 ?_
  refine lv_topi (fun x80 ex80 => ?_)
  obtain rfl : x80 = (-1 : Int32) := ex80.trans (by decide)
  refine lv_icmp_gt (tgt := 429) hx hb d_law_23 (by decide) (fun _ => ?_) (fun c9 => absurd (by decide) c9)
  refine lv_iconst (v := 1) hx hb d_law_429 (by decide) ?_
  refine va_forget (fun q hq => hAe _ (hS.2.2 q hq)) ?_
  refine W.widen (k := 60000) (n := 8922250) (Nat.le_of_ble_eq_true rfl) (Nat.le_of_ble_eq_true rfl) ?_
  exact lw_ret hx hb hr hlocks d_law_430

set_option maxHeartbeats 4000000 in
set_option maxRecDepth 100000 in
theorem law_4 {p : Program} {e : Env} {s : State} {m : MethodId} {below : List Frame} {meth : Method} {c : Code} {b : Nat} {xs : Nat → Int32} {A : Nat → Prop} (l : Launch) (E : gk_E) (hAe : ∀ q, A q → s.heap.size ≤ q) (X : gk_X E p s m #[Value.ref b] meth c y_law b_law 4 ret A) (hX : va_X b 4 xs s s.heap) (hbl : b < s.heap.size) (ls : Array Slot) (hl : lv_has ls 4 [(0, .ref b)]) : W p l e room_1 s m #[Value.ref b] below meth c s.heap [] 0 0 (lw_Z below #[Value.ref b] s) (F0 m 0 ls []) := by
  have hx := X.1
  have hb := X.2.1
  have hown := X.2.2.2.1
  have hts := X.2.2.2.2.1
  have hr := X.2.2.2.2.2.2.2.2.1
  have hlocks : meth.locks = false := X.2.2.2.2.2.2.2.2.2.1
  have hbA : ¬ A b := fun h => Nat.not_le.mpr hbl (hAe b h)
  have hP : va_P E.1 gk_cl [] s.heap := fun k q h => by simp at h
  have hD : va_D A [] := ⟨fun i j p q h => by simp at h, fun k q h => by simp at h⟩
  have hS : va_S A s.heap s.heap [] := va_S.rf
  obtain ⟨s0, es0⟩ : ∃ z, z = xs (Int32.toNatClampNeg 0) := ⟨_, rfl⟩
  obtain ⟨s1, es1⟩ : ∃ z, z = xs (Int32.toNatClampNeg 1) := ⟨_, rfl⟩
  obtain ⟨s2, es2⟩ : ∃ z, z = xs (Int32.toNatClampNeg 2) := ⟨_, rfl⟩
  obtain ⟨s3, es3⟩ : ∃ z, z = xs (Int32.toNatClampNeg 3) := ⟨_, rfl⟩
  refine gk_new (ci := 0) (fs := df_Jt) X in_Jt t_Jt t_Jt_ok k_117 k_118 k_90 hP hD hS rfl df_Jt_ok (Nat.le_of_ble_eq_true rfl) (Nat.le_of_ble_eq_true rfl) d_law_0 (fun q1 H hP hD hS => ?_)
  have hP : va_P E.1 gk_cl [(q1, .inr (0, [.null, .null, .null, .null, .int 0, .null]))] H := hP
  have hD : va_D A [(q1, .inr (0, [.null, .null, .null, .null, .int 0, .null]))] := hD
  refine W.widen (k := 1) (n := 6) (by omega) (by omega) ?_
  refine lv_dup hx hb d_law_3 rfl ?_
  refine gk_back (wr := []) (gk_runI (As := []) (rest := [.ref q1]) X (c_Jt_init l E q1 H.size) ok_Jt_init (Or.inl k_119) k_120 rfl rfl hP hD hS [0] rfl rfl hl.1 rfl (Nat.le_of_ble_eq_true rfl) d_law_4 ⟨(Nat.le_of_ble_eq_true rfl), (Nat.le_of_ble_eq_true rfl)⟩ ⟨(Nat.le_of_ble_eq_true rfl), (Nat.le_of_ble_eq_true rfl)⟩) hP hD hS X.2.2.2.2.2.2.2.1 [0] [] rfl rfl rfl (by decide) (fun r w H locs hB hP hD hS => ?_)
  obtain ⟨q2, q3, q4, q5, q6, q7, q8, q9, q10, q11, q12, q13, q14, q15, q16, q17, q18, q19, q20, q21, q22, q23, rfl, rfl⟩ := hB
  have hP : va_P E.1 gk_cl [(q1, .inr (0, [.ref q2, .ref q3, .ref q4, .ref q5, .int 0, .null])), (q2, .inl (E.2.1 1, 3000, .inl (fun _ => 0))), (q3, .inr (1, [.ref q6, .ref q7, .ref q8, .ref q9, .int 0])), (q4, .inr (5, [.int 0, .ref E.2.2, .int 0])), (q5, .inr (2, [.ref q10, .ref q11, .ref q12, .ref q13, .ref q14, .ref q15, .ref q16, .int 0, .int 0, .long 0, .int 0, .int 0])), (q10, .inr (3, [.ref q17, .ref q18, .ref q19, .ref q20, .ref q21, .ref q22, .ref q23, .int 0]))] H := hP
  have hD : va_D A [(q1, .inr (0, [.ref q2, .ref q3, .ref q4, .ref q5, .int 0, .null])), (q2, .inl (E.2.1 1, 3000, .inl (fun _ => 0))), (q3, .inr (1, [.ref q6, .ref q7, .ref q8, .ref q9, .int 0])), (q4, .inr (5, [.int 0, .ref E.2.2, .int 0])), (q5, .inr (2, [.ref q10, .ref q11, .ref q12, .ref q13, .ref q14, .ref q15, .ref q16, .int 0, .int 0, .long 0, .int 0, .int 0])), (q10, .inr (3, [.ref q17, .ref q18, .ref q19, .ref q20, .ref q21, .ref q22, .ref q23, .int 0]))] := hD
  refine W.widen (k := 30) (n := 4306) (by omega) (by omega) ?_
  refine lv_astore_n (lv' := [(1, .ref q1), (0, .ref b)]) hx hb d_law_7 rfl hl (by decide) rfl (fun ls hl => ?_)
  refine gk_new (ci := 10) (fs := df_Mo) X in_Mo t_Mo t_Mo_ok k_1346 k_1347 k_102 hP hD hS rfl df_Mo_ok (Nat.le_of_ble_eq_true rfl) (Nat.le_of_ble_eq_true rfl) d_law_8 (fun q24 H hP hD hS => ?_)
  have hP : va_P E.1 gk_cl [(q1, .inr (0, [.ref q2, .ref q3, .ref q4, .ref q5, .int 0, .null])), (q2, .inl (E.2.1 1, 3000, .inl (fun _ => 0))), (q3, .inr (1, [.ref q6, .ref q7, .ref q8, .ref q9, .int 0])), (q4, .inr (5, [.int 0, .ref E.2.2, .int 0])), (q5, .inr (2, [.ref q10, .ref q11, .ref q12, .ref q13, .ref q14, .ref q15, .ref q16, .int 0, .int 0, .long 0, .int 0, .int 0])), (q10, .inr (3, [.ref q17, .ref q18, .ref q19, .ref q20, .ref q21, .ref q22, .ref q23, .int 0])), (q24, .inr (10, [.int 0, .null, .null, .int 0, .null, .null, .null, .null, .null, .null, .null, .null, .null, .null, .null, .null, .null, .null, .null, .int 0, .int 0, .int 0, .int 0, .null, .null, .null, .null, .int 0, .int 0, .null, .null, .int 0, .int 0, .int 0, .int 0, .int 0, .int 0, .int 0, .int 0, .null, .int 0, .int 0, .int 0, .int 0, .null, .null, .null, .null, .null, .null, .null, .null, .int 0, .int 0, .null, .null, .null, .int 0, .null, .null, .null, .null, .null, .null, .null, .null, .null, .int 0, .null, .null, .null, .null, .null, .int 0, .null, .null, .null, .int 0, .int 0, .null, .null]))] H := hP
  have hD : va_D A [(q1, .inr (0, [.ref q2, .ref q3, .ref q4, .ref q5, .int 0, .null])), (q2, .inl (E.2.1 1, 3000, .inl (fun _ => 0))), (q3, .inr (1, [.ref q6, .ref q7, .ref q8, .ref q9, .int 0])), (q4, .inr (5, [.int 0, .ref E.2.2, .int 0])), (q5, .inr (2, [.ref q10, .ref q11, .ref q12, .ref q13, .ref q14, .ref q15, .ref q16, .int 0, .int 0, .long 0, .int 0, .int 0])), (q10, .inr (3, [.ref q17, .ref q18, .ref q19, .ref q20, .ref q21, .ref q22, .ref q23, .int 0])), (q24, .inr (10, [.int 0, .null, .null, .int 0, .null, .null, .null, .null, .null, .null, .null, .null, .null, .null, .null, .null, .null, .null, .null, .int 0, .int 0, .int 0, .int 0, .null, .null, .null, .null, .int 0, .int 0, .null, .null, .int 0, .int 0, .int 0, .int 0, .int 0, .int 0, .int 0, .int 0, .null, .int 0, .int 0, .int 0, .int 0, .null, .null, .null, .null, .null, .null, .null, .null, .int 0, .int 0, .null, .null, .null, .int 0, .null, .null, .null, .null, .null, .null, .null, .null, .null, .int 0, .null, .null, .null, .null, .null, .int 0, .null, .null, .null, .int 0, .int 0, .null, .null]))] := hD
  refine W.widen (k := 31) (n := 4387) (by omega) (by omega) ?_
  refine lv_dup hx hb d_law_11 rfl ?_
  refine gk_back (wr := [(q1, .inr (0, [.ref q2, .ref q3, .ref q4, .ref q5, .int 0, .null])), (q2, .inl (E.2.1 1, 3000, .inl (fun _ => 0))), (q3, .inr (1, [.ref q6, .ref q7, .ref q8, .ref q9, .int 0])), (q4, .inr (5, [.int 0, .ref E.2.2, .int 0])), (q5, .inr (2, [.ref q10, .ref q11, .ref q12, .ref q13, .ref q14, .ref q15, .ref q16, .int 0, .int 0, .long 0, .int 0, .int 0])), (q10, .inr (3, [.ref q17, .ref q18, .ref q19, .ref q20, .ref q21, .ref q22, .ref q23, .int 0]))]) (gk_runI (As := []) (rest := [.ref q24]) X (c_Mo_init l E q24 H.size) ok_Mo_init (Or.inl k_1348) k_1349 rfl rfl hP hD hS [6] rfl rfl hl.1 rfl (Nat.le_of_ble_eq_true rfl) d_law_12 ⟨(Nat.le_of_ble_eq_true rfl), (Nat.le_of_ble_eq_true rfl)⟩ ⟨(Nat.le_of_ble_eq_true rfl), (Nat.le_of_ble_eq_true rfl)⟩) hP hD hS X.2.2.2.2.2.2.2.1 [6] [0, 1, 2, 3, 4, 5] rfl rfl rfl (by decide) (fun r w H locs hB hP hD hS => ?_)
  obtain ⟨q25, q26, q27, q28, q29, q30, q31, q32, q33, q34, q35, q36, q37, q38, q39, q40, q41, q42, q43, q44, q45, q46, q47, q48, q49, q50, q51, q52, q53, q54, q55, q56, q57, q58, q59, q60, q61, q62, q63, q64, q65, q66, q67, q68, q69, q70, q71, q72, q73, q74, q75, q76, q77, q78, rfl, rfl⟩ := hB
  have hP : va_P E.1 gk_cl [(q1, .inr (0, [.ref q2, .ref q3, .ref q4, .ref q5, .int 0, .null])), (q2, .inl (E.2.1 1, 3000, .inl (fun _ => 0))), (q3, .inr (1, [.ref q6, .ref q7, .ref q8, .ref q9, .int 0])), (q4, .inr (5, [.int 0, .ref E.2.2, .int 0])), (q5, .inr (2, [.ref q10, .ref q11, .ref q12, .ref q13, .ref q14, .ref q15, .ref q16, .int 0, .int 0, .long 0, .int 0, .int 0])), (q10, .inr (3, [.ref q17, .ref q18, .ref q19, .ref q20, .ref q21, .ref q22, .ref q23, .int 0])), (q24, .inr (10, [.int 0, .ref q25, .ref q26, .int 0, .ref q27, .ref q28, .ref q29, .ref q30, .ref q31, .ref q32, .ref q33, .ref q34, .ref q35, .ref q36, .ref q37, .ref q38, .ref q39, .ref q40, .ref q41, .int 0, .int 0, .int 0, .int 0, .ref q42, .ref q43, .ref q44, .ref q45, .int 0, .int 0, .ref q46, .ref q47, .int 0, .int 0, .int 0, .int 0, .int 0, .int 0, .int 0, .int 0, .ref q48, .int 0, .int 0, .int 0, .int 0, .ref q49, .ref q50, .ref q51, .ref q52, .ref q53, .ref q54, .ref q55, .ref q56, .int 0, .int 0, .ref q57, .ref q58, .ref q59, .int 0, .ref q60, .ref q61, .ref q62, .ref q63, .ref q64, .ref q65, .ref q66, .ref q67, .ref q68, .int 0, .ref q69, .ref q70, .ref q71, .ref q72, .ref q73, .int 0, .ref q74, .ref q75, .ref q76, .int 0, .int 0, .ref q77, .ref q78])), (q27, .inl (E.2.1 0, 13, .inl (fun _ => 0))), (q26, .inl (E.2.1 0, 3000, .inl (fun _ => 0)))] H := hP
  have hD : va_D A [(q1, .inr (0, [.ref q2, .ref q3, .ref q4, .ref q5, .int 0, .null])), (q2, .inl (E.2.1 1, 3000, .inl (fun _ => 0))), (q3, .inr (1, [.ref q6, .ref q7, .ref q8, .ref q9, .int 0])), (q4, .inr (5, [.int 0, .ref E.2.2, .int 0])), (q5, .inr (2, [.ref q10, .ref q11, .ref q12, .ref q13, .ref q14, .ref q15, .ref q16, .int 0, .int 0, .long 0, .int 0, .int 0])), (q10, .inr (3, [.ref q17, .ref q18, .ref q19, .ref q20, .ref q21, .ref q22, .ref q23, .int 0])), (q24, .inr (10, [.int 0, .ref q25, .ref q26, .int 0, .ref q27, .ref q28, .ref q29, .ref q30, .ref q31, .ref q32, .ref q33, .ref q34, .ref q35, .ref q36, .ref q37, .ref q38, .ref q39, .ref q40, .ref q41, .int 0, .int 0, .int 0, .int 0, .ref q42, .ref q43, .ref q44, .ref q45, .int 0, .int 0, .ref q46, .ref q47, .int 0, .int 0, .int 0, .int 0, .int 0, .int 0, .int 0, .int 0, .ref q48, .int 0, .int 0, .int 0, .int 0, .ref q49, .ref q50, .ref q51, .ref q52, .ref q53, .ref q54, .ref q55, .ref q56, .int 0, .int 0, .ref q57, .ref q58, .ref q59, .int 0, .ref q60, .ref q61, .ref q62, .ref q63, .ref q64, .ref q65, .ref q66, .ref q67, .ref q68, .int 0, .ref q69, .ref q70, .ref q71, .ref q72, .ref q73, .int 0, .ref q74, .ref q75, .ref q76, .int 0, .int 0, .ref q77, .ref q78])), (q27, .inl (E.2.1 0, 13, .inl (fun _ => 0))), (q26, .inl (E.2.1 0, 3000, .inl (fun _ => 0)))] := hD
  refine W.widen (k := 85) (n := 1318515) (by omega) (by omega) ?_
  refine lv_astore_n (lv' := [(2, .ref q24), (1, .ref q1), (0, .ref b)]) hx hb d_law_15 rfl hl (by decide) rfl (fun ls hl => ?_)
  refine lv_iconst (v := 0) hx hb d_law_16 (by decide) ?_
  refine lv_istore_n (lv' := [(3, .int 0), (2, .ref q24), (1, .ref q1), (0, .ref b)]) hx hb d_law_17 rfl hl (by decide) rfl (fun ls hl => ?_)
  refine lv_iload_n hx hb d_law_18 rfl (lv_at hl 0 rfl) ?_
  refine lv_aload_n hx hb d_law_19 rfl (lv_at hl 3 rfl) ?_
  refine va_slen hx hb hX hbl hbA hS d_law_20 ?_
  refine lv_topi (fun x79 ex79 => ?_)
  obtain rfl : x79 = (4 : Int32) := ex79.trans (by decide)
  refine lv_iconst (v := 4) hx hb d_law_21 (by decide) ?_
  refine lv_isub hx hb d_law_22 ?_
  refine lv_topi (fun x80 ex80 => ?_)
  obtain rfl : x80 = (0 : Int32) := ex80.trans (by decide)
  refine lv_icmp_gt (tgt := 429) hx hb d_law_23 (by decide) (fun c9 => absurd c9 (by decide)) (fun _ => ?_)
  refine lv_aload_n hx hb d_law_26 rfl (lv_at hl 3 rfl) ?_
  refine lv_iload_n hx hb d_law_27 rfl (lv_at hl 0 rfl) ?_
  refine va_sld hx hb hX hbl hbA hS (i := 0) (by unfold vp_in; decide) d_law_28 ?_
  refine W.eq (g2 := F0 m 29 ls [.int s0]) (by rw [es0]; try rfl) ?_
  refine lv_bipush (v := 15) hx hb d_law_29 (by decide) ?_
  refine lv_iand hx hb d_law_31 ?_
  refine lv_topi (fun x82 ex82 => ?_)
  by_cases c83 : x82.toInt < 0 ∨ 10 < x82.toInt
  · refine lv_tableOut (tgt := 423) hx hb d_law_32 c83 (by decide) ?_
    refine lv_iinc (v := 4) (lv' := [(3, .int 4), (2, .ref q24), (1, .ref q1), (0, .ref b)]) hx hb d_law_423 hl (k := 0) rfl (by decide) (by decide) rfl (fun ls hl => ?_)
    refine lv_goto (tgt := 18) hx hb d_law_426 (by decide) ?_
    refine lv_iload_n hx hb d_law_18 rfl (lv_at hl 0 rfl) ?_
    refine lv_aload_n hx hb d_law_19 rfl (lv_at hl 3 rfl) ?_
    refine va_slen hx hb hX hbl hbA hS d_law_20 ?_
    refine lv_topi (fun x84 ex84 => ?_)
    obtain rfl : x84 = (4 : Int32) := ex84.trans (by decide)
    refine lv_iconst (v := 4) hx hb d_law_21 (by decide) ?_
    refine lv_isub hx hb d_law_22 ?_
    refine lv_topi (fun x85 ex85 => ?_)
    obtain rfl : x85 = (0 : Int32) := ex85.trans (by decide)
    refine lv_icmp_gt (tgt := 429) hx hb d_law_23 (by decide) (fun _ => ?_) (fun c9 => absurd (by decide) c9)
    refine lv_iconst (v := 1) hx hb d_law_429 (by decide) ?_
    refine va_forget (fun q hq => hAe _ (hS.2.2 q hq)) ?_
    refine W.widen (k := 60000) (n := 8922250) (Nat.le_of_ble_eq_true rfl) (Nat.le_of_ble_eq_true rfl) ?_
    exact lw_ret hx hb hr hlocks d_law_430
  · rcases gk_sw10 c83 with rfl | rfl | rfl | rfl | rfl | rfl | rfl | rfl | rfl | rfl | rfl
    · refine lv_tableIn (tgt := 92) (off := 60) hx hb d_law_32 (by decide) (by decide) (by decide) (by decide) ?_
      refine lv_aload_n hx hb d_law_92 rfl (lv_at hl 2 rfl) ?_
      refine lv_aload_n hx hb d_law_93 rfl (lv_at hl 3 rfl) ?_
      refine lv_iload_n hx hb d_law_94 rfl (lv_at hl 0 rfl) ?_
      refine lv_iconst (v := 1) hx hb d_law_95 (by decide) ?_
      refine lv_iadd hx hb d_law_96 ?_
      refine lv_topi (fun x86 ex86 => ?_)
      obtain rfl : x86 = (1 : Int32) := ex86.trans (by decide)
      refine va_sld hx hb hX hbl hbA hS (i := 1) (by unfold vp_in; decide) d_law_97 ?_
      refine W.eq (g2 := F0 m 98 ls [.int s1, .ref q1]) (by rw [es1]; try rfl) ?_
      refine lv_i2l hx hb d_law_98 rfl ?_
      refine lv_topl (fun x88 ex88 => ?_)
      refine lv_bipush (v := 32) hx hb d_law_99 (by decide) ?_
      refine lv_lshl hx hb d_law_101 rfl ?_
      refine lv_topl (fun x89 ex89 => ?_)
      refine lv_aload_n hx hb d_law_102 rfl (lv_at hl 3 rfl) ?_
      refine lv_iload_n hx hb d_law_103 rfl (lv_at hl 0 rfl) ?_
      refine lv_iconst (v := 2) hx hb d_law_104 (by decide) ?_
      refine lv_iadd hx hb d_law_105 ?_
      refine lv_topi (fun x90 ex90 => ?_)
      obtain rfl : x90 = (2 : Int32) := ex90.trans (by decide)
      refine va_sld hx hb hX hbl hbA hS (i := 2) (by unfold vp_in; decide) d_law_106 ?_
      refine W.eq (g2 := F0 m 107 ls [.int s2, .long x89, .ref q1]) (by rw [es2]; try rfl) ?_
      refine lv_i2l hx hb d_law_107 rfl ?_
      refine lv_topl (fun x92 ex92 => ?_)
      refine lv_ldc2 (own := "JobTextLaw") (v := 4294967295) hx hb hown (hts _ k_1875) d_law_108 ?_
      refine lv_land hx hb d_law_111 ?_
      refine lv_topl (fun x93 ex93 => ?_)
      refine lv_lor hx hb d_law_112 ?_
      refine lv_topl (fun x94 ex94 => ?_)
      refine gk_back (wr := [(q3, .inr (1, [.ref q6, .ref q7, .ref q8, .ref q9, .int 0])), (q4, .inr (5, [.int 0, .ref E.2.2, .int 0])), (q5, .inr (2, [.ref q10, .ref q11, .ref q12, .ref q13, .ref q14, .ref q15, .ref q16, .int 0, .int 0, .long 0, .int 0, .int 0])), (q10, .inr (3, [.ref q17, .ref q18, .ref q19, .ref q20, .ref q21, .ref q22, .ref q23, .int 0])), (q24, .inr (10, [.int 0, .ref q25, .ref q26, .int 0, .ref q27, .ref q28, .ref q29, .ref q30, .ref q31, .ref q32, .ref q33, .ref q34, .ref q35, .ref q36, .ref q37, .ref q38, .ref q39, .ref q40, .ref q41, .int 0, .int 0, .int 0, .int 0, .ref q42, .ref q43, .ref q44, .ref q45, .int 0, .int 0, .ref q46, .ref q47, .int 0, .int 0, .int 0, .int 0, .int 0, .int 0, .int 0, .int 0, .ref q48, .int 0, .int 0, .int 0, .int 0, .ref q49, .ref q50, .ref q51, .ref q52, .ref q53, .ref q54, .ref q55, .ref q56, .int 0, .int 0, .ref q57, .ref q58, .ref q59, .int 0, .ref q60, .ref q61, .ref q62, .ref q63, .ref q64, .ref q65, .ref q66, .ref q67, .ref q68, .int 0, .ref q69, .ref q70, .ref q71, .ref q72, .ref q73, .int 0, .ref q74, .ref q75, .ref q76, .int 0, .int 0, .ref q77, .ref q78])), (q27, .inl (E.2.1 0, 13, .inl (fun _ => 0))), (q26, .inl (E.2.1 0, 3000, .inl (fun _ => 0)))]) (gk_runV (As := [.long x94]) (rest := []) (ci := 0) (q0 := 0) X (c_Jt_sign l E q1 q2 q3 q4 q5 x94 H.size) ok_Jt_sign (Or.inl k_321) k_322 k_323 rfl rfl rfl hP hD hS [0, 1] rfl rfl hl.1 rfl (Nat.le_of_ble_eq_true rfl) d_law_113 ⟨(Nat.le_of_ble_eq_true rfl), (Nat.le_of_ble_eq_true rfl)⟩ ⟨(Nat.le_of_ble_eq_true rfl), (Nat.le_of_ble_eq_true rfl)⟩) hP hD hS X.2.2.2.2.2.2.2.1 [0, 1] [2, 3, 4, 5, 6, 7, 8] rfl rfl rfl (by decide) (fun r w H locs hB hP hD hS => ?_)
      obtain ⟨rfl, rfl⟩ := hB
      have hP : va_P E.1 gk_cl [(q3, .inr (1, [.ref q6, .ref q7, .ref q8, .ref q9, .int 0])), (q4, .inr (5, [.int 0, .ref E.2.2, .int 0])), (q5, .inr (2, [.ref q10, .ref q11, .ref q12, .ref q13, .ref q14, .ref q15, .ref q16, .int 0, .int 0, .long 0, .int 0, .int 0])), (q10, .inr (3, [.ref q17, .ref q18, .ref q19, .ref q20, .ref q21, .ref q22, .ref q23, .int 0])), (q24, .inr (10, [.int 0, .ref q25, .ref q26, .int 0, .ref q27, .ref q28, .ref q29, .ref q30, .ref q31, .ref q32, .ref q33, .ref q34, .ref q35, .ref q36, .ref q37, .ref q38, .ref q39, .ref q40, .ref q41, .int 0, .int 0, .int 0, .int 0, .ref q42, .ref q43, .ref q44, .ref q45, .int 0, .int 0, .ref q46, .ref q47, .int 0, .int 0, .int 0, .int 0, .int 0, .int 0, .int 0, .int 0, .ref q48, .int 0, .int 0, .int 0, .int 0, .ref q49, .ref q50, .ref q51, .ref q52, .ref q53, .ref q54, .ref q55, .ref q56, .int 0, .int 0, .ref q57, .ref q58, .ref q59, .int 0, .ref q60, .ref q61, .ref q62, .ref q63, .ref q64, .ref q65, .ref q66, .ref q67, .ref q68, .int 0, .ref q69, .ref q70, .ref q71, .ref q72, .ref q73, .int 0, .ref q74, .ref q75, .ref q76, .int 0, .int 0, .ref q77, .ref q78])), (q27, .inl (E.2.1 0, 13, .inl (fun _ => 0))), (q26, .inl (E.2.1 0, 3000, .inl (fun _ => 0)))] H := hP
      have hD : va_D A [(q3, .inr (1, [.ref q6, .ref q7, .ref q8, .ref q9, .int 0])), (q4, .inr (5, [.int 0, .ref E.2.2, .int 0])), (q5, .inr (2, [.ref q10, .ref q11, .ref q12, .ref q13, .ref q14, .ref q15, .ref q16, .int 0, .int 0, .long 0, .int 0, .int 0])), (q10, .inr (3, [.ref q17, .ref q18, .ref q19, .ref q20, .ref q21, .ref q22, .ref q23, .int 0])), (q24, .inr (10, [.int 0, .ref q25, .ref q26, .int 0, .ref q27, .ref q28, .ref q29, .ref q30, .ref q31, .ref q32, .ref q33, .ref q34, .ref q35, .ref q36, .ref q37, .ref q38, .ref q39, .ref q40, .ref q41, .int 0, .int 0, .int 0, .int 0, .ref q42, .ref q43, .ref q44, .ref q45, .int 0, .int 0, .ref q46, .ref q47, .int 0, .int 0, .int 0, .int 0, .int 0, .int 0, .int 0, .int 0, .ref q48, .int 0, .int 0, .int 0, .int 0, .ref q49, .ref q50, .ref q51, .ref q52, .ref q53, .ref q54, .ref q55, .ref q56, .int 0, .int 0, .ref q57, .ref q58, .ref q59, .int 0, .ref q60, .ref q61, .ref q62, .ref q63, .ref q64, .ref q65, .ref q66, .ref q67, .ref q68, .int 0, .ref q69, .ref q70, .ref q71, .ref q72, .ref q73, .int 0, .ref q74, .ref q75, .ref q76, .int 0, .int 0, .ref q77, .ref q78])), (q27, .inl (E.2.1 0, 13, .inl (fun _ => 0))), (q26, .inl (E.2.1 0, 3000, .inl (fun _ => 0)))] := hD
      refine W.widen (k := 85) (n := 1318515) (by omega) (by omega) ?_
      refine lv_aload_n hx hb d_law_116 rfl (lv_at hl 1 rfl) ?_
      refine lv_aload_n hx hb d_law_117 rfl (lv_at hl 3 rfl) ?_
      refine lv_iload_n hx hb d_law_118 rfl (lv_at hl 0 rfl) ?_
      refine lv_iconst (v := 1) hx hb d_law_119 (by decide) ?_
      refine lv_iadd hx hb d_law_120 ?_
      refine lv_topi (fun x95 ex95 => ?_)
      obtain rfl : x95 = (1 : Int32) := ex95.trans (by decide)
      refine va_sld hx hb hX hbl hbA hS (i := 1) (by unfold vp_in; decide) d_law_121 ?_
      refine W.eq (g2 := F0 m 122 ls [.int s1, .ref q24]) (by rw [es1]; try rfl) ?_
      refine lv_i2l hx hb d_law_122 rfl ?_
      refine lv_topl (fun x97 ex97 => ?_)
      refine lv_bipush (v := 32) hx hb d_law_123 (by decide) ?_
      refine lv_lshl hx hb d_law_125 rfl ?_
      refine lv_topl (fun x98 ex98 => ?_)
      refine lv_aload_n hx hb d_law_126 rfl (lv_at hl 3 rfl) ?_
      refine lv_iload_n hx hb d_law_127 rfl (lv_at hl 0 rfl) ?_
      refine lv_iconst (v := 2) hx hb d_law_128 (by decide) ?_
      refine lv_iadd hx hb d_law_129 ?_
      refine lv_topi (fun x99 ex99 => ?_)
      obtain rfl : x99 = (2 : Int32) := ex99.trans (by decide)
      refine va_sld hx hb hX hbl hbA hS (i := 2) (by unfold vp_in; decide) d_law_130 ?_
      refine W.eq (g2 := F0 m 131 ls [.int s2, .long x98, .ref q24]) (by rw [es2]; try rfl) ?_
      refine lv_i2l hx hb d_law_131 rfl ?_
      refine lv_topl (fun x101 ex101 => ?_)
      refine lv_ldc2 (own := "JobTextLaw") (v := 4294967295) hx hb hown (hts _ k_1875) d_law_132 ?_
      refine lv_land hx hb d_law_135 ?_
      refine lv_topl (fun x102 ex102 => ?_)
      refine lv_lor hx hb d_law_136 ?_
      refine lv_topl (fun x103 ex103 => ?_)
      refine gk_back (wr := [(q3, .inr (1, [.ref q6, .ref q7, .ref q8, .ref q9, .int 0])), (q4, .inr (5, [.int 0, .ref E.2.2, .int 0])), (q5, .inr (2, [.ref q10, .ref q11, .ref q12, .ref q13, .ref q14, .ref q15, .ref q16, .int 0, .int 0, .long 0, .int 0, .int 0])), (q10, .inr (3, [.ref q17, .ref q18, .ref q19, .ref q20, .ref q21, .ref q22, .ref q23, .int 0])), (q27, .inl (E.2.1 0, 13, .inl (fun _ => 0)))]) (gk_runV (As := [.long x103]) (rest := []) (ci := 10) (q0 := 4) X (c_Mo_sign l E q24 q25 q26 q27 q28 q29 q30 q31 q32 q33 q34 q35 q36 q37 q38 q39 q40 q41 q42 q43 q44 q45 q46 q47 q48 q49 q50 q51 q52 q53 q54 q55 q56 q57 q58 q59 q60 q61 q62 q63 q64 q65 q66 q67 q68 q69 q70 q71 q72 q73 q74 q75 q76 q77 q78 x103 H.size) ok_Mo_sign (Or.inl k_1600) k_1601 k_1602 rfl rfl rfl hP hD hS [4, 6] rfl rfl hl.1 rfl (Nat.le_of_ble_eq_true rfl) d_law_137 ⟨(Nat.le_of_ble_eq_true rfl), (Nat.le_of_ble_eq_true rfl)⟩ ⟨(Nat.le_of_ble_eq_true rfl), (Nat.le_of_ble_eq_true rfl)⟩) hP hD hS X.2.2.2.2.2.2.2.1 [4, 6] [0, 1, 2, 3, 5] rfl rfl rfl (by decide) (fun r w H locs hB hP hD hS => ?_)
      obtain ⟨rfl, rfl⟩ := hB
      have hP : va_P E.1 gk_cl [(q3, .inr (1, [.ref q6, .ref q7, .ref q8, .ref q9, .int 0])), (q4, .inr (5, [.int 0, .ref E.2.2, .int 0])), (q5, .inr (2, [.ref q10, .ref q11, .ref q12, .ref q13, .ref q14, .ref q15, .ref q16, .int 0, .int 0, .long 0, .int 0, .int 0])), (q10, .inr (3, [.ref q17, .ref q18, .ref q19, .ref q20, .ref q21, .ref q22, .ref q23, .int 0])), (q27, .inl (E.2.1 0, 13, .inl (fun _ => 0)))] H := hP
      have hD : va_D A [(q3, .inr (1, [.ref q6, .ref q7, .ref q8, .ref q9, .int 0])), (q4, .inr (5, [.int 0, .ref E.2.2, .int 0])), (q5, .inr (2, [.ref q10, .ref q11, .ref q12, .ref q13, .ref q14, .ref q15, .ref q16, .int 0, .int 0, .long 0, .int 0, .int 0])), (q10, .inr (3, [.ref q17, .ref q18, .ref q19, .ref q20, .ref q21, .ref q22, .ref q23, .int 0])), (q27, .inl (E.2.1 0, 13, .inl (fun _ => 0)))] := hD
      refine W.widen (k := 85) (n := 1318515) (by omega) (by omega) ?_
      refine lv_goto (tgt := 423) hx hb d_law_140 (by decide) ?_
      refine lv_iinc (v := 4) (lv' := [(3, .int 4), (2, .ref q24), (1, .ref q1), (0, .ref b)]) hx hb d_law_423 hl (k := 0) rfl (by decide) (by decide) rfl (fun ls hl => ?_)
      refine lv_goto (tgt := 18) hx hb d_law_426 (by decide) ?_
      refine lv_iload_n hx hb d_law_18 rfl (lv_at hl 0 rfl) ?_
      refine lv_aload_n hx hb d_law_19 rfl (lv_at hl 3 rfl) ?_
      refine va_slen hx hb hX hbl hbA hS d_law_20 ?_
      refine lv_topi (fun x104 ex104 => ?_)
      obtain rfl : x104 = (4 : Int32) := ex104.trans (by decide)
      refine lv_iconst (v := 4) hx hb d_law_21 (by decide) ?_
      refine lv_isub hx hb d_law_22 ?_
      refine lv_topi (fun x105 ex105 => ?_)
      obtain rfl : x105 = (0 : Int32) := ex105.trans (by decide)
      refine lv_icmp_gt (tgt := 429) hx hb d_law_23 (by decide) (fun _ => ?_) (fun c9 => absurd (by decide) c9)
      refine lv_iconst (v := 1) hx hb d_law_429 (by decide) ?_
      refine va_forget (fun q hq => hAe _ (hS.2.2 q hq)) ?_
      refine W.widen (k := 60000) (n := 8922250) (Nat.le_of_ble_eq_true rfl) (Nat.le_of_ble_eq_true rfl) ?_
      exact lw_ret hx hb hr hlocks d_law_430
    · refine lv_tableIn (tgt := 143) (off := 111) hx hb d_law_32 (by decide) (by decide) (by decide) (by decide) ?_
      refine lv_aload_n hx hb d_law_143 rfl (lv_at hl 2 rfl) ?_
      refine gk_back (wr := [(q5, .inr (2, [.ref q10, .ref q11, .ref q12, .ref q13, .ref q14, .ref q15, .ref q16, .int 0, .int 0, .long 0, .int 0, .int 0])), (q10, .inr (3, [.ref q17, .ref q18, .ref q19, .ref q20, .ref q21, .ref q22, .ref q23, .int 0])), (q24, .inr (10, [.int 0, .ref q25, .ref q26, .int 0, .ref q27, .ref q28, .ref q29, .ref q30, .ref q31, .ref q32, .ref q33, .ref q34, .ref q35, .ref q36, .ref q37, .ref q38, .ref q39, .ref q40, .ref q41, .int 0, .int 0, .int 0, .int 0, .ref q42, .ref q43, .ref q44, .ref q45, .int 0, .int 0, .ref q46, .ref q47, .int 0, .int 0, .int 0, .int 0, .int 0, .int 0, .int 0, .int 0, .ref q48, .int 0, .int 0, .int 0, .int 0, .ref q49, .ref q50, .ref q51, .ref q52, .ref q53, .ref q54, .ref q55, .ref q56, .int 0, .int 0, .ref q57, .ref q58, .ref q59, .int 0, .ref q60, .ref q61, .ref q62, .ref q63, .ref q64, .ref q65, .ref q66, .ref q67, .ref q68, .int 0, .ref q69, .ref q70, .ref q71, .ref q72, .ref q73, .int 0, .ref q74, .ref q75, .ref q76, .int 0, .int 0, .ref q77, .ref q78])), (q27, .inl (E.2.1 0, 13, .inl (fun _ => 0))), (q26, .inl (E.2.1 0, 3000, .inl (fun _ => 0)))]) (gk_runV (As := []) (rest := []) (ci := 0) (q0 := 0) X (c_Jt_read l E q1 q2 q3 q4 q5 q6 q7 q8 q9 H.size) ok_Jt_read (Or.inl k_328) k_329 k_330 rfl rfl rfl hP hD hS [0, 1, 2, 3] rfl rfl hl.1 rfl (Nat.le_of_ble_eq_true rfl) d_law_144 ⟨(Nat.le_of_ble_eq_true rfl), (Nat.le_of_ble_eq_true rfl)⟩ ⟨(Nat.le_of_ble_eq_true rfl), (Nat.le_of_ble_eq_true rfl)⟩) hP hD hS X.2.2.2.2.2.2.2.1 [0, 1, 2, 3] [4, 5, 6, 7, 8] rfl rfl rfl (by decide) (fun r w H locs hB hP hD hS => ?_)
      obtain ⟨rfl, rfl⟩ := hB
      have hP : va_P E.1 gk_cl [(q5, .inr (2, [.ref q10, .ref q11, .ref q12, .ref q13, .ref q14, .ref q15, .ref q16, .int 0, .int 0, .long 0, .int 0, .int 0])), (q10, .inr (3, [.ref q17, .ref q18, .ref q19, .ref q20, .ref q21, .ref q22, .ref q23, .int 0])), (q24, .inr (10, [.int 0, .ref q25, .ref q26, .int 0, .ref q27, .ref q28, .ref q29, .ref q30, .ref q31, .ref q32, .ref q33, .ref q34, .ref q35, .ref q36, .ref q37, .ref q38, .ref q39, .ref q40, .ref q41, .int 0, .int 0, .int 0, .int 0, .ref q42, .ref q43, .ref q44, .ref q45, .int 0, .int 0, .ref q46, .ref q47, .int 0, .int 0, .int 0, .int 0, .int 0, .int 0, .int 0, .int 0, .ref q48, .int 0, .int 0, .int 0, .int 0, .ref q49, .ref q50, .ref q51, .ref q52, .ref q53, .ref q54, .ref q55, .ref q56, .int 0, .int 0, .ref q57, .ref q58, .ref q59, .int 0, .ref q60, .ref q61, .ref q62, .ref q63, .ref q64, .ref q65, .ref q66, .ref q67, .ref q68, .int 0, .ref q69, .ref q70, .ref q71, .ref q72, .ref q73, .int 0, .ref q74, .ref q75, .ref q76, .int 0, .int 0, .ref q77, .ref q78])), (q27, .inl (E.2.1 0, 13, .inl (fun _ => 0))), (q26, .inl (E.2.1 0, 3000, .inl (fun _ => 0)))] H := hP
      have hD : va_D A [(q5, .inr (2, [.ref q10, .ref q11, .ref q12, .ref q13, .ref q14, .ref q15, .ref q16, .int 0, .int 0, .long 0, .int 0, .int 0])), (q10, .inr (3, [.ref q17, .ref q18, .ref q19, .ref q20, .ref q21, .ref q22, .ref q23, .int 0])), (q24, .inr (10, [.int 0, .ref q25, .ref q26, .int 0, .ref q27, .ref q28, .ref q29, .ref q30, .ref q31, .ref q32, .ref q33, .ref q34, .ref q35, .ref q36, .ref q37, .ref q38, .ref q39, .ref q40, .ref q41, .int 0, .int 0, .int 0, .int 0, .ref q42, .ref q43, .ref q44, .ref q45, .int 0, .int 0, .ref q46, .ref q47, .int 0, .int 0, .int 0, .int 0, .int 0, .int 0, .int 0, .int 0, .ref q48, .int 0, .int 0, .int 0, .int 0, .ref q49, .ref q50, .ref q51, .ref q52, .ref q53, .ref q54, .ref q55, .ref q56, .int 0, .int 0, .ref q57, .ref q58, .ref q59, .int 0, .ref q60, .ref q61, .ref q62, .ref q63, .ref q64, .ref q65, .ref q66, .ref q67, .ref q68, .int 0, .ref q69, .ref q70, .ref q71, .ref q72, .ref q73, .int 0, .ref q74, .ref q75, .ref q76, .int 0, .int 0, .ref q77, .ref q78])), (q27, .inl (E.2.1 0, 13, .inl (fun _ => 0))), (q26, .inl (E.2.1 0, 3000, .inl (fun _ => 0)))] := hD
      refine W.widen (k := 96) (n := 1318801) (by omega) (by omega) ?_
      refine W.eq (g2 := F0 m 147 ls [.int 0]) rfl ?_
      refine lv_aload_n hx hb d_law_147 rfl (lv_at hl 1 rfl) ?_
      refine gk_back (wr := [(q5, .inr (2, [.ref q10, .ref q11, .ref q12, .ref q13, .ref q14, .ref q15, .ref q16, .int 0, .int 0, .long 0, .int 0, .int 0])), (q10, .inr (3, [.ref q17, .ref q18, .ref q19, .ref q20, .ref q21, .ref q22, .ref q23, .int 0])), (q26, .inl (E.2.1 0, 3000, .inl (fun _ => 0)))]) (gk_runV (As := []) (rest := [.int 0]) (ci := 10) (q0 := 2) X (c_Mo_read l E q24 q25 q26 q27 q28 q29 q30 q31 q32 q33 q34 q35 q36 q37 q38 q39 q40 q41 q42 q43 q44 q45 q46 q47 q48 q49 q50 q51 q52 q53 q54 q55 q56 q57 q58 q59 q60 q61 q62 q63 q64 q65 q66 q67 q68 q69 q70 q71 q72 q73 q74 q75 q76 q77 q78 H.size) ok_Mo_read (Or.inl k_1605) k_1606 k_1607 rfl rfl rfl hP hD hS [2, 3] rfl rfl hl.1 rfl (Nat.le_of_ble_eq_true rfl) d_law_148 ⟨(Nat.le_of_ble_eq_true rfl), (Nat.le_of_ble_eq_true rfl)⟩ ⟨(Nat.le_of_ble_eq_true rfl), (Nat.le_of_ble_eq_true rfl)⟩) hP hD hS X.2.2.2.2.2.2.2.1 [2, 3] [0, 1, 4] rfl rfl rfl (by decide) (fun r w H locs hB hP hD hS => ?_)
      obtain ⟨rfl, rfl⟩ := hB
      have hP : va_P E.1 gk_cl [(q5, .inr (2, [.ref q10, .ref q11, .ref q12, .ref q13, .ref q14, .ref q15, .ref q16, .int 0, .int 0, .long 0, .int 0, .int 0])), (q10, .inr (3, [.ref q17, .ref q18, .ref q19, .ref q20, .ref q21, .ref q22, .ref q23, .int 0])), (q26, .inl (E.2.1 0, 3000, .inl (fun _ => 0)))] H := hP
      have hD : va_D A [(q5, .inr (2, [.ref q10, .ref q11, .ref q12, .ref q13, .ref q14, .ref q15, .ref q16, .int 0, .int 0, .long 0, .int 0, .int 0])), (q10, .inr (3, [.ref q17, .ref q18, .ref q19, .ref q20, .ref q21, .ref q22, .ref q23, .int 0])), (q26, .inl (E.2.1 0, 3000, .inl (fun _ => 0)))] := hD
      refine W.widen (k := 96) (n := 1318801) (by omega) (by omega) ?_
      refine W.eq (g2 := F0 m 151 ls [.int 0, .int 0]) rfl ?_
      refine lv_icmp_eq (tgt := 423) hx hb d_law_151 (by decide) (fun _ => ?_) (fun c9 => absurd (by decide) c9)
      refine lv_iinc (v := 4) (lv' := [(3, .int 4), (2, .ref q24), (1, .ref q1), (0, .ref b)]) hx hb d_law_423 hl (k := 0) rfl (by decide) (by decide) rfl (fun ls hl => ?_)
      refine lv_goto (tgt := 18) hx hb d_law_426 (by decide) ?_
      refine lv_iload_n hx hb d_law_18 rfl (lv_at hl 0 rfl) ?_
      refine lv_aload_n hx hb d_law_19 rfl (lv_at hl 3 rfl) ?_
      refine va_slen hx hb hX hbl hbA hS d_law_20 ?_
      refine lv_topi (fun x106 ex106 => ?_)
      obtain rfl : x106 = (4 : Int32) := ex106.trans (by decide)
      refine lv_iconst (v := 4) hx hb d_law_21 (by decide) ?_
      refine lv_isub hx hb d_law_22 ?_
      refine lv_topi (fun x107 ex107 => ?_)
      obtain rfl : x107 = (0 : Int32) := ex107.trans (by decide)
      refine lv_icmp_gt (tgt := 429) hx hb d_law_23 (by decide) (fun _ => ?_) (fun c9 => absurd (by decide) c9)
      refine lv_iconst (v := 1) hx hb d_law_429 (by decide) ?_
      refine va_forget (fun q hq => hAe _ (hS.2.2 q hq)) ?_
      refine W.widen (k := 60000) (n := 8922250) (Nat.le_of_ble_eq_true rfl) (Nat.le_of_ble_eq_true rfl) ?_
      exact lw_ret hx hb hr hlocks d_law_430
    · refine lv_tableIn (tgt := 156) (off := 124) hx hb d_law_32 (by decide) (by decide) (by decide) (by decide) ?_
      refine lv_aload_n hx hb d_law_156 rfl (lv_at hl 2 rfl) ?_
      refine lv_aload_n hx hb d_law_157 rfl (lv_at hl 3 rfl) ?_
      refine lv_iload_n hx hb d_law_158 rfl (lv_at hl 0 rfl) ?_
      refine lv_iconst (v := 1) hx hb d_law_159 (by decide) ?_
      refine lv_iadd hx hb d_law_160 ?_
      refine lv_topi (fun x108 ex108 => ?_)
      obtain rfl : x108 = (1 : Int32) := ex108.trans (by decide)
      refine va_sld hx hb hX hbl hbA hS (i := 1) (by unfold vp_in; decide) d_law_161 ?_
      refine W.eq (g2 := F0 m 162 ls [.int s1, .ref q1]) (by rw [es1]; try rfl) ?_
      refine lv_aload_n hx hb d_law_162 rfl (lv_at hl 3 rfl) ?_
      refine lv_iload_n hx hb d_law_163 rfl (lv_at hl 0 rfl) ?_
      refine lv_iconst (v := 2) hx hb d_law_164 (by decide) ?_
      refine lv_iadd hx hb d_law_165 ?_
      refine lv_topi (fun x110 ex110 => ?_)
      obtain rfl : x110 = (2 : Int32) := ex110.trans (by decide)
      refine va_sld hx hb hX hbl hbA hS (i := 2) (by unfold vp_in; decide) d_law_166 ?_
      refine W.eq (g2 := F0 m 167 ls [.int s2, .int s1, .ref q1]) (by rw [es2]; try rfl) ?_
      refine gk_back (wr := [(q2, .inl (E.2.1 1, 3000, .inl (fun _ => 0))), (q3, .inr (1, [.ref q6, .ref q7, .ref q8, .ref q9, .int 0])), (q4, .inr (5, [.int 0, .ref E.2.2, .int 0])), (q5, .inr (2, [.ref q10, .ref q11, .ref q12, .ref q13, .ref q14, .ref q15, .ref q16, .int 0, .int 0, .long 0, .int 0, .int 0])), (q10, .inr (3, [.ref q17, .ref q18, .ref q19, .ref q20, .ref q21, .ref q22, .ref q23, .int 0])), (q24, .inr (10, [.int 0, .ref q25, .ref q26, .int 0, .ref q27, .ref q28, .ref q29, .ref q30, .ref q31, .ref q32, .ref q33, .ref q34, .ref q35, .ref q36, .ref q37, .ref q38, .ref q39, .ref q40, .ref q41, .int 0, .int 0, .int 0, .int 0, .ref q42, .ref q43, .ref q44, .ref q45, .int 0, .int 0, .ref q46, .ref q47, .int 0, .int 0, .int 0, .int 0, .int 0, .int 0, .int 0, .int 0, .ref q48, .int 0, .int 0, .int 0, .int 0, .ref q49, .ref q50, .ref q51, .ref q52, .ref q53, .ref q54, .ref q55, .ref q56, .int 0, .int 0, .ref q57, .ref q58, .ref q59, .int 0, .ref q60, .ref q61, .ref q62, .ref q63, .ref q64, .ref q65, .ref q66, .ref q67, .ref q68, .int 0, .ref q69, .ref q70, .ref q71, .ref q72, .ref q73, .int 0, .ref q74, .ref q75, .ref q76, .int 0, .int 0, .ref q77, .ref q78])), (q27, .inl (E.2.1 0, 13, .inl (fun _ => 0))), (q26, .inl (E.2.1 0, 3000, .inl (fun _ => 0)))]) (gk_runV (As := [.int s1, .int s2]) (rest := []) (ci := 0) (q0 := 0) X (c_Jt_statement l E q1 q2 q3 q4 q5 s1 s2 H.size) ok_Jt_statement (Or.inl k_925) k_926 k_927 rfl rfl rfl hP hD hS [0] rfl rfl hl.1 rfl (Nat.le_of_ble_eq_true rfl) d_law_167 ⟨(Nat.le_of_ble_eq_true rfl), (Nat.le_of_ble_eq_true rfl)⟩ ⟨(Nat.le_of_ble_eq_true rfl), (Nat.le_of_ble_eq_true rfl)⟩) hP hD hS X.2.2.2.2.2.2.2.1 [0] [1, 2, 3, 4, 5, 6, 7, 8] rfl rfl rfl (by decide) (fun r w H locs hB hP hD hS => ?_)
      obtain ⟨rfl, rfl⟩ := hB
      have hP : va_P E.1 gk_cl [(q2, .inl (E.2.1 1, 3000, .inl (fun _ => 0))), (q3, .inr (1, [.ref q6, .ref q7, .ref q8, .ref q9, .int 0])), (q4, .inr (5, [.int 0, .ref E.2.2, .int 0])), (q5, .inr (2, [.ref q10, .ref q11, .ref q12, .ref q13, .ref q14, .ref q15, .ref q16, .int 0, .int 0, .long 0, .int 0, .int 0])), (q10, .inr (3, [.ref q17, .ref q18, .ref q19, .ref q20, .ref q21, .ref q22, .ref q23, .int 0])), (q24, .inr (10, [.int 0, .ref q25, .ref q26, .int 0, .ref q27, .ref q28, .ref q29, .ref q30, .ref q31, .ref q32, .ref q33, .ref q34, .ref q35, .ref q36, .ref q37, .ref q38, .ref q39, .ref q40, .ref q41, .int 0, .int 0, .int 0, .int 0, .ref q42, .ref q43, .ref q44, .ref q45, .int 0, .int 0, .ref q46, .ref q47, .int 0, .int 0, .int 0, .int 0, .int 0, .int 0, .int 0, .int 0, .ref q48, .int 0, .int 0, .int 0, .int 0, .ref q49, .ref q50, .ref q51, .ref q52, .ref q53, .ref q54, .ref q55, .ref q56, .int 0, .int 0, .ref q57, .ref q58, .ref q59, .int 0, .ref q60, .ref q61, .ref q62, .ref q63, .ref q64, .ref q65, .ref q66, .ref q67, .ref q68, .int 0, .ref q69, .ref q70, .ref q71, .ref q72, .ref q73, .int 0, .ref q74, .ref q75, .ref q76, .int 0, .int 0, .ref q77, .ref q78])), (q27, .inl (E.2.1 0, 13, .inl (fun _ => 0))), (q26, .inl (E.2.1 0, 3000, .inl (fun _ => 0)))] H := hP
      have hD : va_D A [(q2, .inl (E.2.1 1, 3000, .inl (fun _ => 0))), (q3, .inr (1, [.ref q6, .ref q7, .ref q8, .ref q9, .int 0])), (q4, .inr (5, [.int 0, .ref E.2.2, .int 0])), (q5, .inr (2, [.ref q10, .ref q11, .ref q12, .ref q13, .ref q14, .ref q15, .ref q16, .int 0, .int 0, .long 0, .int 0, .int 0])), (q10, .inr (3, [.ref q17, .ref q18, .ref q19, .ref q20, .ref q21, .ref q22, .ref q23, .int 0])), (q24, .inr (10, [.int 0, .ref q25, .ref q26, .int 0, .ref q27, .ref q28, .ref q29, .ref q30, .ref q31, .ref q32, .ref q33, .ref q34, .ref q35, .ref q36, .ref q37, .ref q38, .ref q39, .ref q40, .ref q41, .int 0, .int 0, .int 0, .int 0, .ref q42, .ref q43, .ref q44, .ref q45, .int 0, .int 0, .ref q46, .ref q47, .int 0, .int 0, .int 0, .int 0, .int 0, .int 0, .int 0, .int 0, .ref q48, .int 0, .int 0, .int 0, .int 0, .ref q49, .ref q50, .ref q51, .ref q52, .ref q53, .ref q54, .ref q55, .ref q56, .int 0, .int 0, .ref q57, .ref q58, .ref q59, .int 0, .ref q60, .ref q61, .ref q62, .ref q63, .ref q64, .ref q65, .ref q66, .ref q67, .ref q68, .int 0, .ref q69, .ref q70, .ref q71, .ref q72, .ref q73, .int 0, .ref q74, .ref q75, .ref q76, .int 0, .int 0, .ref q77, .ref q78])), (q27, .inl (E.2.1 0, 13, .inl (fun _ => 0))), (q26, .inl (E.2.1 0, 3000, .inl (fun _ => 0)))] := hD
      refine W.widen (k := 85) (n := 1318515) (by omega) (by omega) ?_
      refine W.eq (g2 := F0 m 170 ls [.int (-1)]) rfl ?_
      refine lv_aload_n hx hb d_law_170 rfl (lv_at hl 1 rfl) ?_
      refine lv_aload_n hx hb d_law_171 rfl (lv_at hl 3 rfl) ?_
      refine lv_iload_n hx hb d_law_172 rfl (lv_at hl 0 rfl) ?_
      refine lv_iconst (v := 1) hx hb d_law_173 (by decide) ?_
      refine lv_iadd hx hb d_law_174 ?_
      refine lv_topi (fun x112 ex112 => ?_)
      obtain rfl : x112 = (1 : Int32) := ex112.trans (by decide)
      refine va_sld hx hb hX hbl hbA hS (i := 1) (by unfold vp_in; decide) d_law_175 ?_
      refine W.eq (g2 := F0 m 176 ls [.int s1, .ref q24, .int (-1)]) (by rw [es1]; try rfl) ?_
      refine lv_aload_n hx hb d_law_176 rfl (lv_at hl 3 rfl) ?_
      refine lv_iload_n hx hb d_law_177 rfl (lv_at hl 0 rfl) ?_
      refine lv_iconst (v := 2) hx hb d_law_178 (by decide) ?_
      refine lv_iadd hx hb d_law_179 ?_
      refine lv_topi (fun x114 ex114 => ?_)
      obtain rfl : x114 = (2 : Int32) := ex114.trans (by decide)
      refine va_sld hx hb hX hbl hbA hS (i := 2) (by unfold vp_in; decide) d_law_180 ?_
      refine W.eq (g2 := F0 m 181 ls [.int s2, .int s1, .ref q24, .int (-1)]) (by rw [es2]; try rfl) ?_
      refine gk_back (wr := [(q2, .inl (E.2.1 1, 3000, .inl (fun _ => 0))), (q3, .inr (1, [.ref q6, .ref q7, .ref q8, .ref q9, .int 0])), (q4, .inr (5, [.int 0, .ref E.2.2, .int 0])), (q5, .inr (2, [.ref q10, .ref q11, .ref q12, .ref q13, .ref q14, .ref q15, .ref q16, .int 0, .int 0, .long 0, .int 0, .int 0])), (q10, .inr (3, [.ref q17, .ref q18, .ref q19, .ref q20, .ref q21, .ref q22, .ref q23, .int 0])), (q26, .inl (E.2.1 0, 3000, .inl (fun _ => 0)))]) (gk_runV (As := [.int s1, .int s2]) (rest := [.int (-1)]) (ci := 10) (q0 := 5) X (c_Mo_statement l E q24 q25 q26 q27 q28 q29 q30 q31 q32 q33 q34 q35 q36 q37 q38 q39 q40 q41 q42 q43 q44 q45 q46 q47 q48 q49 q50 q51 q52 q53 q54 q55 q56 q57 q58 q59 q60 q61 q62 q63 q64 q65 q66 q67 q68 q69 q70 q71 q72 q73 q74 q75 q76 q77 q78 s1 s2 H.size) ok_Mo_statement (Or.inl k_1843) k_1844 k_1845 rfl rfl rfl hP hD hS [5, 6] rfl rfl hl.1 rfl (Nat.le_of_ble_eq_true rfl) d_law_181 ⟨(Nat.le_of_ble_eq_true rfl), (Nat.le_of_ble_eq_true rfl)⟩ ⟨(Nat.le_of_ble_eq_true rfl), (Nat.le_of_ble_eq_true rfl)⟩) hP hD hS X.2.2.2.2.2.2.2.1 [5, 6] [0, 1, 2, 3, 4, 7] rfl rfl rfl (by decide) (fun r w H locs hB hP hD hS => ?_)
      obtain ⟨rfl, rfl⟩ := hB
      have hP : va_P E.1 gk_cl [(q2, .inl (E.2.1 1, 3000, .inl (fun _ => 0))), (q3, .inr (1, [.ref q6, .ref q7, .ref q8, .ref q9, .int 0])), (q4, .inr (5, [.int 0, .ref E.2.2, .int 0])), (q5, .inr (2, [.ref q10, .ref q11, .ref q12, .ref q13, .ref q14, .ref q15, .ref q16, .int 0, .int 0, .long 0, .int 0, .int 0])), (q10, .inr (3, [.ref q17, .ref q18, .ref q19, .ref q20, .ref q21, .ref q22, .ref q23, .int 0])), (q26, .inl (E.2.1 0, 3000, .inl (fun _ => 0)))] H := hP
      have hD : va_D A [(q2, .inl (E.2.1 1, 3000, .inl (fun _ => 0))), (q3, .inr (1, [.ref q6, .ref q7, .ref q8, .ref q9, .int 0])), (q4, .inr (5, [.int 0, .ref E.2.2, .int 0])), (q5, .inr (2, [.ref q10, .ref q11, .ref q12, .ref q13, .ref q14, .ref q15, .ref q16, .int 0, .int 0, .long 0, .int 0, .int 0])), (q10, .inr (3, [.ref q17, .ref q18, .ref q19, .ref q20, .ref q21, .ref q22, .ref q23, .int 0])), (q26, .inl (E.2.1 0, 3000, .inl (fun _ => 0)))] := hD
      refine W.widen (k := 85) (n := 1318515) (by omega) (by omega) ?_
      refine W.eq (g2 := F0 m 184 ls [.int (-1), .int (-1)]) rfl ?_
      refine lv_icmp_eq (tgt := 423) hx hb d_law_184 (by decide) (fun _ => ?_) (fun c9 => absurd (by decide) c9)
      refine lv_iinc (v := 4) (lv' := [(3, .int 4), (2, .ref q24), (1, .ref q1), (0, .ref b)]) hx hb d_law_423 hl (k := 0) rfl (by decide) (by decide) rfl (fun ls hl => ?_)
      refine lv_goto (tgt := 18) hx hb d_law_426 (by decide) ?_
      refine lv_iload_n hx hb d_law_18 rfl (lv_at hl 0 rfl) ?_
      refine lv_aload_n hx hb d_law_19 rfl (lv_at hl 3 rfl) ?_
      refine va_slen hx hb hX hbl hbA hS d_law_20 ?_
      refine lv_topi (fun x116 ex116 => ?_)
      obtain rfl : x116 = (4 : Int32) := ex116.trans (by decide)
      refine lv_iconst (v := 4) hx hb d_law_21 (by decide) ?_
      refine lv_isub hx hb d_law_22 ?_
      refine lv_topi (fun x117 ex117 => ?_)
      obtain rfl : x117 = (0 : Int32) := ex117.trans (by decide)
      refine lv_icmp_gt (tgt := 429) hx hb d_law_23 (by decide) (fun _ => ?_) (fun c9 => absurd (by decide) c9)
      refine lv_iconst (v := 1) hx hb d_law_429 (by decide) ?_
      refine va_forget (fun q hq => hAe _ (hS.2.2 q hq)) ?_
      refine W.widen (k := 60000) (n := 8922250) (Nat.le_of_ble_eq_true rfl) (Nat.le_of_ble_eq_true rfl) ?_
      exact lw_ret hx hb hr hlocks d_law_430
    · refine lv_tableIn (tgt := 189) (off := 157) hx hb d_law_32 (by decide) (by decide) (by decide) (by decide) ?_
      refine lv_aload_n hx hb d_law_189 rfl (lv_at hl 2 rfl) ?_
      refine lv_aload_n hx hb d_law_190 rfl (lv_at hl 3 rfl) ?_
      refine lv_iload_n hx hb d_law_191 rfl (lv_at hl 0 rfl) ?_
      refine lv_iconst (v := 1) hx hb d_law_192 (by decide) ?_
      refine lv_iadd hx hb d_law_193 ?_
      refine lv_topi (fun x118 ex118 => ?_)
      obtain rfl : x118 = (1 : Int32) := ex118.trans (by decide)
      refine va_sld hx hb hX hbl hbA hS (i := 1) (by unfold vp_in; decide) d_law_194 ?_
      refine W.eq (g2 := F0 m 195 ls [.int s1, .ref q1]) (by rw [es1]; try rfl) ?_
      refine lv_aload_n hx hb d_law_195 rfl (lv_at hl 3 rfl) ?_
      refine lv_iload_n hx hb d_law_196 rfl (lv_at hl 0 rfl) ?_
      refine lv_iconst (v := 2) hx hb d_law_197 (by decide) ?_
      refine lv_iadd hx hb d_law_198 ?_
      refine lv_topi (fun x120 ex120 => ?_)
      obtain rfl : x120 = (2 : Int32) := ex120.trans (by decide)
      refine va_sld hx hb hX hbl hbA hS (i := 2) (by unfold vp_in; decide) d_law_199 ?_
      refine W.eq (g2 := F0 m 200 ls [.int s2, .int s1, .ref q1]) (by rw [es2]; try rfl) ?_
      refine lv_aload_n hx hb d_law_200 rfl (lv_at hl 3 rfl) ?_
      refine lv_iload_n hx hb d_law_201 rfl (lv_at hl 0 rfl) ?_
      refine lv_iconst (v := 3) hx hb d_law_202 (by decide) ?_
      refine lv_iadd hx hb d_law_203 ?_
      refine lv_topi (fun x122 ex122 => ?_)
      obtain rfl : x122 = (3 : Int32) := ex122.trans (by decide)
      refine va_sld hx hb hX hbl hbA hS (i := 3) (by unfold vp_in; decide) d_law_204 ?_
      refine W.eq (g2 := F0 m 205 ls [.int s3, .int s2, .int s1, .ref q1]) (by rw [es3]; try rfl) ?_
      refine gk_back (wr := [(q2, .inl (E.2.1 1, 3000, .inl (fun _ => 0))), (q3, .inr (1, [.ref q6, .ref q7, .ref q8, .ref q9, .int 0])), (q4, .inr (5, [.int 0, .ref E.2.2, .int 0])), (q5, .inr (2, [.ref q10, .ref q11, .ref q12, .ref q13, .ref q14, .ref q15, .ref q16, .int 0, .int 0, .long 0, .int 0, .int 0])), (q10, .inr (3, [.ref q17, .ref q18, .ref q19, .ref q20, .ref q21, .ref q22, .ref q23, .int 0])), (q24, .inr (10, [.int 0, .ref q25, .ref q26, .int 0, .ref q27, .ref q28, .ref q29, .ref q30, .ref q31, .ref q32, .ref q33, .ref q34, .ref q35, .ref q36, .ref q37, .ref q38, .ref q39, .ref q40, .ref q41, .int 0, .int 0, .int 0, .int 0, .ref q42, .ref q43, .ref q44, .ref q45, .int 0, .int 0, .ref q46, .ref q47, .int 0, .int 0, .int 0, .int 0, .int 0, .int 0, .int 0, .int 0, .ref q48, .int 0, .int 0, .int 0, .int 0, .ref q49, .ref q50, .ref q51, .ref q52, .ref q53, .ref q54, .ref q55, .ref q56, .int 0, .int 0, .ref q57, .ref q58, .ref q59, .int 0, .ref q60, .ref q61, .ref q62, .ref q63, .ref q64, .ref q65, .ref q66, .ref q67, .ref q68, .int 0, .ref q69, .ref q70, .ref q71, .ref q72, .ref q73, .int 0, .ref q74, .ref q75, .ref q76, .int 0, .int 0, .ref q77, .ref q78])), (q27, .inl (E.2.1 0, 13, .inl (fun _ => 0))), (q26, .inl (E.2.1 0, 3000, .inl (fun _ => 0)))]) (gk_runV (As := [.int s1, .int s2, .int s3]) (rest := []) (ci := 0) (q0 := 0) X (c_Jt_parameter l E q1 q2 q3 q4 q5 s1 s2 s3 H.size) ok_Jt_parameter (Or.inl k_938) k_939 k_940 rfl rfl rfl hP hD hS [0] rfl rfl hl.1 rfl (Nat.le_of_ble_eq_true rfl) d_law_205 ⟨(Nat.le_of_ble_eq_true rfl), (Nat.le_of_ble_eq_true rfl)⟩ ⟨(Nat.le_of_ble_eq_true rfl), (Nat.le_of_ble_eq_true rfl)⟩) hP hD hS X.2.2.2.2.2.2.2.1 [0] [1, 2, 3, 4, 5, 6, 7, 8] rfl rfl rfl (by decide) (fun r w H locs hB hP hD hS => ?_)
      obtain ⟨rfl, rfl⟩ := hB
      have hP : va_P E.1 gk_cl [(q2, .inl (E.2.1 1, 3000, .inl (fun _ => 0))), (q3, .inr (1, [.ref q6, .ref q7, .ref q8, .ref q9, .int 0])), (q4, .inr (5, [.int 0, .ref E.2.2, .int 0])), (q5, .inr (2, [.ref q10, .ref q11, .ref q12, .ref q13, .ref q14, .ref q15, .ref q16, .int 0, .int 0, .long 0, .int 0, .int 0])), (q10, .inr (3, [.ref q17, .ref q18, .ref q19, .ref q20, .ref q21, .ref q22, .ref q23, .int 0])), (q24, .inr (10, [.int 0, .ref q25, .ref q26, .int 0, .ref q27, .ref q28, .ref q29, .ref q30, .ref q31, .ref q32, .ref q33, .ref q34, .ref q35, .ref q36, .ref q37, .ref q38, .ref q39, .ref q40, .ref q41, .int 0, .int 0, .int 0, .int 0, .ref q42, .ref q43, .ref q44, .ref q45, .int 0, .int 0, .ref q46, .ref q47, .int 0, .int 0, .int 0, .int 0, .int 0, .int 0, .int 0, .int 0, .ref q48, .int 0, .int 0, .int 0, .int 0, .ref q49, .ref q50, .ref q51, .ref q52, .ref q53, .ref q54, .ref q55, .ref q56, .int 0, .int 0, .ref q57, .ref q58, .ref q59, .int 0, .ref q60, .ref q61, .ref q62, .ref q63, .ref q64, .ref q65, .ref q66, .ref q67, .ref q68, .int 0, .ref q69, .ref q70, .ref q71, .ref q72, .ref q73, .int 0, .ref q74, .ref q75, .ref q76, .int 0, .int 0, .ref q77, .ref q78])), (q27, .inl (E.2.1 0, 13, .inl (fun _ => 0))), (q26, .inl (E.2.1 0, 3000, .inl (fun _ => 0)))] H := hP
      have hD : va_D A [(q2, .inl (E.2.1 1, 3000, .inl (fun _ => 0))), (q3, .inr (1, [.ref q6, .ref q7, .ref q8, .ref q9, .int 0])), (q4, .inr (5, [.int 0, .ref E.2.2, .int 0])), (q5, .inr (2, [.ref q10, .ref q11, .ref q12, .ref q13, .ref q14, .ref q15, .ref q16, .int 0, .int 0, .long 0, .int 0, .int 0])), (q10, .inr (3, [.ref q17, .ref q18, .ref q19, .ref q20, .ref q21, .ref q22, .ref q23, .int 0])), (q24, .inr (10, [.int 0, .ref q25, .ref q26, .int 0, .ref q27, .ref q28, .ref q29, .ref q30, .ref q31, .ref q32, .ref q33, .ref q34, .ref q35, .ref q36, .ref q37, .ref q38, .ref q39, .ref q40, .ref q41, .int 0, .int 0, .int 0, .int 0, .ref q42, .ref q43, .ref q44, .ref q45, .int 0, .int 0, .ref q46, .ref q47, .int 0, .int 0, .int 0, .int 0, .int 0, .int 0, .int 0, .int 0, .ref q48, .int 0, .int 0, .int 0, .int 0, .ref q49, .ref q50, .ref q51, .ref q52, .ref q53, .ref q54, .ref q55, .ref q56, .int 0, .int 0, .ref q57, .ref q58, .ref q59, .int 0, .ref q60, .ref q61, .ref q62, .ref q63, .ref q64, .ref q65, .ref q66, .ref q67, .ref q68, .int 0, .ref q69, .ref q70, .ref q71, .ref q72, .ref q73, .int 0, .ref q74, .ref q75, .ref q76, .int 0, .int 0, .ref q77, .ref q78])), (q27, .inl (E.2.1 0, 13, .inl (fun _ => 0))), (q26, .inl (E.2.1 0, 3000, .inl (fun _ => 0)))] := hD
      refine W.widen (k := 85) (n := 1318515) (by omega) (by omega) ?_
      refine W.eq (g2 := F0 m 208 ls [.int (-1)]) rfl ?_
      refine lv_aload_n hx hb d_law_208 rfl (lv_at hl 1 rfl) ?_
      refine lv_aload_n hx hb d_law_209 rfl (lv_at hl 3 rfl) ?_
      refine lv_iload_n hx hb d_law_210 rfl (lv_at hl 0 rfl) ?_
      refine lv_iconst (v := 1) hx hb d_law_211 (by decide) ?_
      refine lv_iadd hx hb d_law_212 ?_
      refine lv_topi (fun x124 ex124 => ?_)
      obtain rfl : x124 = (1 : Int32) := ex124.trans (by decide)
      refine va_sld hx hb hX hbl hbA hS (i := 1) (by unfold vp_in; decide) d_law_213 ?_
      refine W.eq (g2 := F0 m 214 ls [.int s1, .ref q24, .int (-1)]) (by rw [es1]; try rfl) ?_
      refine lv_aload_n hx hb d_law_214 rfl (lv_at hl 3 rfl) ?_
      refine lv_iload_n hx hb d_law_215 rfl (lv_at hl 0 rfl) ?_
      refine lv_iconst (v := 2) hx hb d_law_216 (by decide) ?_
      refine lv_iadd hx hb d_law_217 ?_
      refine lv_topi (fun x126 ex126 => ?_)
      obtain rfl : x126 = (2 : Int32) := ex126.trans (by decide)
      refine va_sld hx hb hX hbl hbA hS (i := 2) (by unfold vp_in; decide) d_law_218 ?_
      refine W.eq (g2 := F0 m 219 ls [.int s2, .int s1, .ref q24, .int (-1)]) (by rw [es2]; try rfl) ?_
      refine lv_aload_n hx hb d_law_219 rfl (lv_at hl 3 rfl) ?_
      refine lv_iload_n hx hb d_law_220 rfl (lv_at hl 0 rfl) ?_
      refine lv_iconst (v := 3) hx hb d_law_221 (by decide) ?_
      refine lv_iadd hx hb d_law_222 ?_
      refine lv_topi (fun x128 ex128 => ?_)
      obtain rfl : x128 = (3 : Int32) := ex128.trans (by decide)
      refine va_sld hx hb hX hbl hbA hS (i := 3) (by unfold vp_in; decide) d_law_223 ?_
      refine W.eq (g2 := F0 m 224 ls [.int s3, .int s2, .int s1, .ref q24, .int (-1)]) (by rw [es3]; try rfl) ?_
      refine gk_back (wr := [(q2, .inl (E.2.1 1, 3000, .inl (fun _ => 0))), (q3, .inr (1, [.ref q6, .ref q7, .ref q8, .ref q9, .int 0])), (q4, .inr (5, [.int 0, .ref E.2.2, .int 0])), (q5, .inr (2, [.ref q10, .ref q11, .ref q12, .ref q13, .ref q14, .ref q15, .ref q16, .int 0, .int 0, .long 0, .int 0, .int 0])), (q10, .inr (3, [.ref q17, .ref q18, .ref q19, .ref q20, .ref q21, .ref q22, .ref q23, .int 0])), (q26, .inl (E.2.1 0, 3000, .inl (fun _ => 0)))]) (gk_runV (As := [.int s1, .int s2, .int s3]) (rest := [.int (-1)]) (ci := 10) (q0 := 5) X (c_Mo_parameter l E q24 q25 q26 q27 q28 q29 q30 q31 q32 q33 q34 q35 q36 q37 q38 q39 q40 q41 q42 q43 q44 q45 q46 q47 q48 q49 q50 q51 q52 q53 q54 q55 q56 q57 q58 q59 q60 q61 q62 q63 q64 q65 q66 q67 q68 q69 q70 q71 q72 q73 q74 q75 q76 q77 q78 s1 s2 s3 H.size) ok_Mo_parameter (Or.inl k_1847) k_1848 k_1849 rfl rfl rfl hP hD hS [5, 6] rfl rfl hl.1 rfl (Nat.le_of_ble_eq_true rfl) d_law_224 ⟨(Nat.le_of_ble_eq_true rfl), (Nat.le_of_ble_eq_true rfl)⟩ ⟨(Nat.le_of_ble_eq_true rfl), (Nat.le_of_ble_eq_true rfl)⟩) hP hD hS X.2.2.2.2.2.2.2.1 [5, 6] [0, 1, 2, 3, 4, 7] rfl rfl rfl (by decide) (fun r w H locs hB hP hD hS => ?_)
      obtain ⟨rfl, rfl⟩ := hB
      have hP : va_P E.1 gk_cl [(q2, .inl (E.2.1 1, 3000, .inl (fun _ => 0))), (q3, .inr (1, [.ref q6, .ref q7, .ref q8, .ref q9, .int 0])), (q4, .inr (5, [.int 0, .ref E.2.2, .int 0])), (q5, .inr (2, [.ref q10, .ref q11, .ref q12, .ref q13, .ref q14, .ref q15, .ref q16, .int 0, .int 0, .long 0, .int 0, .int 0])), (q10, .inr (3, [.ref q17, .ref q18, .ref q19, .ref q20, .ref q21, .ref q22, .ref q23, .int 0])), (q26, .inl (E.2.1 0, 3000, .inl (fun _ => 0)))] H := hP
      have hD : va_D A [(q2, .inl (E.2.1 1, 3000, .inl (fun _ => 0))), (q3, .inr (1, [.ref q6, .ref q7, .ref q8, .ref q9, .int 0])), (q4, .inr (5, [.int 0, .ref E.2.2, .int 0])), (q5, .inr (2, [.ref q10, .ref q11, .ref q12, .ref q13, .ref q14, .ref q15, .ref q16, .int 0, .int 0, .long 0, .int 0, .int 0])), (q10, .inr (3, [.ref q17, .ref q18, .ref q19, .ref q20, .ref q21, .ref q22, .ref q23, .int 0])), (q26, .inl (E.2.1 0, 3000, .inl (fun _ => 0)))] := hD
      refine W.widen (k := 85) (n := 1318515) (by omega) (by omega) ?_
      refine W.eq (g2 := F0 m 227 ls [.int (-1), .int (-1)]) rfl ?_
      refine lv_icmp_eq (tgt := 423) hx hb d_law_227 (by decide) (fun _ => ?_) (fun c9 => absurd (by decide) c9)
      refine lv_iinc (v := 4) (lv' := [(3, .int 4), (2, .ref q24), (1, .ref q1), (0, .ref b)]) hx hb d_law_423 hl (k := 0) rfl (by decide) (by decide) rfl (fun ls hl => ?_)
      refine lv_goto (tgt := 18) hx hb d_law_426 (by decide) ?_
      refine lv_iload_n hx hb d_law_18 rfl (lv_at hl 0 rfl) ?_
      refine lv_aload_n hx hb d_law_19 rfl (lv_at hl 3 rfl) ?_
      refine va_slen hx hb hX hbl hbA hS d_law_20 ?_
      refine lv_topi (fun x130 ex130 => ?_)
      obtain rfl : x130 = (4 : Int32) := ex130.trans (by decide)
      refine lv_iconst (v := 4) hx hb d_law_21 (by decide) ?_
      refine lv_isub hx hb d_law_22 ?_
      refine lv_topi (fun x131 ex131 => ?_)
      obtain rfl : x131 = (0 : Int32) := ex131.trans (by decide)
      refine lv_icmp_gt (tgt := 429) hx hb d_law_23 (by decide) (fun _ => ?_) (fun c9 => absurd (by decide) c9)
      refine lv_iconst (v := 1) hx hb d_law_429 (by decide) ?_
      refine va_forget (fun q hq => hAe _ (hS.2.2 q hq)) ?_
      refine W.widen (k := 60000) (n := 8922250) (Nat.le_of_ble_eq_true rfl) (Nat.le_of_ble_eq_true rfl) ?_
      exact lw_ret hx hb hr hlocks d_law_430
    · refine lv_tableIn (tgt := 232) (off := 200) hx hb d_law_32 (by decide) (by decide) (by decide) (by decide) ?_
      refine lv_aload_n hx hb d_law_232 rfl (lv_at hl 2 rfl) ?_
      refine lv_aload_n hx hb d_law_233 rfl (lv_at hl 3 rfl) ?_
      refine lv_iload_n hx hb d_law_234 rfl (lv_at hl 0 rfl) ?_
      refine lv_iconst (v := 1) hx hb d_law_235 (by decide) ?_
      refine lv_iadd hx hb d_law_236 ?_
      refine lv_topi (fun x132 ex132 => ?_)
      obtain rfl : x132 = (1 : Int32) := ex132.trans (by decide)
      refine va_sld hx hb hX hbl hbA hS (i := 1) (by unfold vp_in; decide) d_law_237 ?_
      refine W.eq (g2 := F0 m 238 ls [.int s1, .ref q1]) (by rw [es1]; try rfl) ?_
      refine lv_aload_n hx hb d_law_238 rfl (lv_at hl 3 rfl) ?_
      refine lv_iload_n hx hb d_law_239 rfl (lv_at hl 0 rfl) ?_
      refine lv_iconst (v := 2) hx hb d_law_240 (by decide) ?_
      refine lv_iadd hx hb d_law_241 ?_
      refine lv_topi (fun x134 ex134 => ?_)
      obtain rfl : x134 = (2 : Int32) := ex134.trans (by decide)
      refine va_sld hx hb hX hbl hbA hS (i := 2) (by unfold vp_in; decide) d_law_242 ?_
      refine W.eq (g2 := F0 m 243 ls [.int s2, .int s1, .ref q1]) (by rw [es2]; try rfl) ?_
      refine gk_back (wr := [(q2, .inl (E.2.1 1, 3000, .inl (fun _ => 0))), (q3, .inr (1, [.ref q6, .ref q7, .ref q8, .ref q9, .int 0])), (q4, .inr (5, [.int 0, .ref E.2.2, .int 0])), (q5, .inr (2, [.ref q10, .ref q11, .ref q12, .ref q13, .ref q14, .ref q15, .ref q16, .int 0, .int 0, .long 0, .int 0, .int 0])), (q10, .inr (3, [.ref q17, .ref q18, .ref q19, .ref q20, .ref q21, .ref q22, .ref q23, .int 0])), (q24, .inr (10, [.int 0, .ref q25, .ref q26, .int 0, .ref q27, .ref q28, .ref q29, .ref q30, .ref q31, .ref q32, .ref q33, .ref q34, .ref q35, .ref q36, .ref q37, .ref q38, .ref q39, .ref q40, .ref q41, .int 0, .int 0, .int 0, .int 0, .ref q42, .ref q43, .ref q44, .ref q45, .int 0, .int 0, .ref q46, .ref q47, .int 0, .int 0, .int 0, .int 0, .int 0, .int 0, .int 0, .int 0, .ref q48, .int 0, .int 0, .int 0, .int 0, .ref q49, .ref q50, .ref q51, .ref q52, .ref q53, .ref q54, .ref q55, .ref q56, .int 0, .int 0, .ref q57, .ref q58, .ref q59, .int 0, .ref q60, .ref q61, .ref q62, .ref q63, .ref q64, .ref q65, .ref q66, .ref q67, .ref q68, .int 0, .ref q69, .ref q70, .ref q71, .ref q72, .ref q73, .int 0, .ref q74, .ref q75, .ref q76, .int 0, .int 0, .ref q77, .ref q78])), (q27, .inl (E.2.1 0, 13, .inl (fun _ => 0))), (q26, .inl (E.2.1 0, 3000, .inl (fun _ => 0)))]) (gk_runV (As := [.int s1, .int s2]) (rest := []) (ci := 0) (q0 := 0) X (c_Jt_data l E q1 q2 q3 q4 q5 s1 s2 H.size) ok_Jt_data (Or.inl k_955) k_956 k_957 rfl rfl rfl hP hD hS [0] rfl rfl hl.1 rfl (Nat.le_of_ble_eq_true rfl) d_law_243 ⟨(Nat.le_of_ble_eq_true rfl), (Nat.le_of_ble_eq_true rfl)⟩ ⟨(Nat.le_of_ble_eq_true rfl), (Nat.le_of_ble_eq_true rfl)⟩) hP hD hS X.2.2.2.2.2.2.2.1 [0] [1, 2, 3, 4, 5, 6, 7, 8] rfl rfl rfl (by decide) (fun r w H locs hB hP hD hS => ?_)
      obtain ⟨rfl, rfl⟩ := hB
      have hP : va_P E.1 gk_cl [(q2, .inl (E.2.1 1, 3000, .inl (fun _ => 0))), (q3, .inr (1, [.ref q6, .ref q7, .ref q8, .ref q9, .int 0])), (q4, .inr (5, [.int 0, .ref E.2.2, .int 0])), (q5, .inr (2, [.ref q10, .ref q11, .ref q12, .ref q13, .ref q14, .ref q15, .ref q16, .int 0, .int 0, .long 0, .int 0, .int 0])), (q10, .inr (3, [.ref q17, .ref q18, .ref q19, .ref q20, .ref q21, .ref q22, .ref q23, .int 0])), (q24, .inr (10, [.int 0, .ref q25, .ref q26, .int 0, .ref q27, .ref q28, .ref q29, .ref q30, .ref q31, .ref q32, .ref q33, .ref q34, .ref q35, .ref q36, .ref q37, .ref q38, .ref q39, .ref q40, .ref q41, .int 0, .int 0, .int 0, .int 0, .ref q42, .ref q43, .ref q44, .ref q45, .int 0, .int 0, .ref q46, .ref q47, .int 0, .int 0, .int 0, .int 0, .int 0, .int 0, .int 0, .int 0, .ref q48, .int 0, .int 0, .int 0, .int 0, .ref q49, .ref q50, .ref q51, .ref q52, .ref q53, .ref q54, .ref q55, .ref q56, .int 0, .int 0, .ref q57, .ref q58, .ref q59, .int 0, .ref q60, .ref q61, .ref q62, .ref q63, .ref q64, .ref q65, .ref q66, .ref q67, .ref q68, .int 0, .ref q69, .ref q70, .ref q71, .ref q72, .ref q73, .int 0, .ref q74, .ref q75, .ref q76, .int 0, .int 0, .ref q77, .ref q78])), (q27, .inl (E.2.1 0, 13, .inl (fun _ => 0))), (q26, .inl (E.2.1 0, 3000, .inl (fun _ => 0)))] H := hP
      have hD : va_D A [(q2, .inl (E.2.1 1, 3000, .inl (fun _ => 0))), (q3, .inr (1, [.ref q6, .ref q7, .ref q8, .ref q9, .int 0])), (q4, .inr (5, [.int 0, .ref E.2.2, .int 0])), (q5, .inr (2, [.ref q10, .ref q11, .ref q12, .ref q13, .ref q14, .ref q15, .ref q16, .int 0, .int 0, .long 0, .int 0, .int 0])), (q10, .inr (3, [.ref q17, .ref q18, .ref q19, .ref q20, .ref q21, .ref q22, .ref q23, .int 0])), (q24, .inr (10, [.int 0, .ref q25, .ref q26, .int 0, .ref q27, .ref q28, .ref q29, .ref q30, .ref q31, .ref q32, .ref q33, .ref q34, .ref q35, .ref q36, .ref q37, .ref q38, .ref q39, .ref q40, .ref q41, .int 0, .int 0, .int 0, .int 0, .ref q42, .ref q43, .ref q44, .ref q45, .int 0, .int 0, .ref q46, .ref q47, .int 0, .int 0, .int 0, .int 0, .int 0, .int 0, .int 0, .int 0, .ref q48, .int 0, .int 0, .int 0, .int 0, .ref q49, .ref q50, .ref q51, .ref q52, .ref q53, .ref q54, .ref q55, .ref q56, .int 0, .int 0, .ref q57, .ref q58, .ref q59, .int 0, .ref q60, .ref q61, .ref q62, .ref q63, .ref q64, .ref q65, .ref q66, .ref q67, .ref q68, .int 0, .ref q69, .ref q70, .ref q71, .ref q72, .ref q73, .int 0, .ref q74, .ref q75, .ref q76, .int 0, .int 0, .ref q77, .ref q78])), (q27, .inl (E.2.1 0, 13, .inl (fun _ => 0))), (q26, .inl (E.2.1 0, 3000, .inl (fun _ => 0)))] := hD
      refine W.widen (k := 85) (n := 1318515) (by omega) (by omega) ?_
      refine W.eq (g2 := F0 m 246 ls [.int (-1)]) rfl ?_
      refine lv_aload_n hx hb d_law_246 rfl (lv_at hl 1 rfl) ?_
      refine lv_aload_n hx hb d_law_247 rfl (lv_at hl 3 rfl) ?_
      refine lv_iload_n hx hb d_law_248 rfl (lv_at hl 0 rfl) ?_
      refine lv_iconst (v := 1) hx hb d_law_249 (by decide) ?_
      refine lv_iadd hx hb d_law_250 ?_
      refine lv_topi (fun x136 ex136 => ?_)
      obtain rfl : x136 = (1 : Int32) := ex136.trans (by decide)
      refine va_sld hx hb hX hbl hbA hS (i := 1) (by unfold vp_in; decide) d_law_251 ?_
      refine W.eq (g2 := F0 m 252 ls [.int s1, .ref q24, .int (-1)]) (by rw [es1]; try rfl) ?_
      refine lv_aload_n hx hb d_law_252 rfl (lv_at hl 3 rfl) ?_
      refine lv_iload_n hx hb d_law_253 rfl (lv_at hl 0 rfl) ?_
      refine lv_iconst (v := 2) hx hb d_law_254 (by decide) ?_
      refine lv_iadd hx hb d_law_255 ?_
      refine lv_topi (fun x138 ex138 => ?_)
      obtain rfl : x138 = (2 : Int32) := ex138.trans (by decide)
      refine va_sld hx hb hX hbl hbA hS (i := 2) (by unfold vp_in; decide) d_law_256 ?_
      refine W.eq (g2 := F0 m 257 ls [.int s2, .int s1, .ref q24, .int (-1)]) (by rw [es2]; try rfl) ?_
      refine gk_back (wr := [(q2, .inl (E.2.1 1, 3000, .inl (fun _ => 0))), (q3, .inr (1, [.ref q6, .ref q7, .ref q8, .ref q9, .int 0])), (q4, .inr (5, [.int 0, .ref E.2.2, .int 0])), (q5, .inr (2, [.ref q10, .ref q11, .ref q12, .ref q13, .ref q14, .ref q15, .ref q16, .int 0, .int 0, .long 0, .int 0, .int 0])), (q10, .inr (3, [.ref q17, .ref q18, .ref q19, .ref q20, .ref q21, .ref q22, .ref q23, .int 0])), (q26, .inl (E.2.1 0, 3000, .inl (fun _ => 0)))]) (gk_runV (As := [.int s1, .int s2]) (rest := [.int (-1)]) (ci := 10) (q0 := 5) X (c_Mo_data l E q24 q25 q26 q27 q28 q29 q30 q31 q32 q33 q34 q35 q36 q37 q38 q39 q40 q41 q42 q43 q44 q45 q46 q47 q48 q49 q50 q51 q52 q53 q54 q55 q56 q57 q58 q59 q60 q61 q62 q63 q64 q65 q66 q67 q68 q69 q70 q71 q72 q73 q74 q75 q76 q77 q78 s1 s2 H.size) ok_Mo_data (Or.inl k_1851) k_1852 k_1853 rfl rfl rfl hP hD hS [5, 6] rfl rfl hl.1 rfl (Nat.le_of_ble_eq_true rfl) d_law_257 ⟨(Nat.le_of_ble_eq_true rfl), (Nat.le_of_ble_eq_true rfl)⟩ ⟨(Nat.le_of_ble_eq_true rfl), (Nat.le_of_ble_eq_true rfl)⟩) hP hD hS X.2.2.2.2.2.2.2.1 [5, 6] [0, 1, 2, 3, 4, 7] rfl rfl rfl (by decide) (fun r w H locs hB hP hD hS => ?_)
      obtain ⟨rfl, rfl⟩ := hB
      have hP : va_P E.1 gk_cl [(q2, .inl (E.2.1 1, 3000, .inl (fun _ => 0))), (q3, .inr (1, [.ref q6, .ref q7, .ref q8, .ref q9, .int 0])), (q4, .inr (5, [.int 0, .ref E.2.2, .int 0])), (q5, .inr (2, [.ref q10, .ref q11, .ref q12, .ref q13, .ref q14, .ref q15, .ref q16, .int 0, .int 0, .long 0, .int 0, .int 0])), (q10, .inr (3, [.ref q17, .ref q18, .ref q19, .ref q20, .ref q21, .ref q22, .ref q23, .int 0])), (q26, .inl (E.2.1 0, 3000, .inl (fun _ => 0)))] H := hP
      have hD : va_D A [(q2, .inl (E.2.1 1, 3000, .inl (fun _ => 0))), (q3, .inr (1, [.ref q6, .ref q7, .ref q8, .ref q9, .int 0])), (q4, .inr (5, [.int 0, .ref E.2.2, .int 0])), (q5, .inr (2, [.ref q10, .ref q11, .ref q12, .ref q13, .ref q14, .ref q15, .ref q16, .int 0, .int 0, .long 0, .int 0, .int 0])), (q10, .inr (3, [.ref q17, .ref q18, .ref q19, .ref q20, .ref q21, .ref q22, .ref q23, .int 0])), (q26, .inl (E.2.1 0, 3000, .inl (fun _ => 0)))] := hD
      refine W.widen (k := 85) (n := 1318515) (by omega) (by omega) ?_
      refine W.eq (g2 := F0 m 260 ls [.int (-1), .int (-1)]) rfl ?_
      refine lv_icmp_eq (tgt := 423) hx hb d_law_260 (by decide) (fun _ => ?_) (fun c9 => absurd (by decide) c9)
      refine lv_iinc (v := 4) (lv' := [(3, .int 4), (2, .ref q24), (1, .ref q1), (0, .ref b)]) hx hb d_law_423 hl (k := 0) rfl (by decide) (by decide) rfl (fun ls hl => ?_)
      refine lv_goto (tgt := 18) hx hb d_law_426 (by decide) ?_
      refine lv_iload_n hx hb d_law_18 rfl (lv_at hl 0 rfl) ?_
      refine lv_aload_n hx hb d_law_19 rfl (lv_at hl 3 rfl) ?_
      refine va_slen hx hb hX hbl hbA hS d_law_20 ?_
      refine lv_topi (fun x140 ex140 => ?_)
      obtain rfl : x140 = (4 : Int32) := ex140.trans (by decide)
      refine lv_iconst (v := 4) hx hb d_law_21 (by decide) ?_
      refine lv_isub hx hb d_law_22 ?_
      refine lv_topi (fun x141 ex141 => ?_)
      obtain rfl : x141 = (0 : Int32) := ex141.trans (by decide)
      refine lv_icmp_gt (tgt := 429) hx hb d_law_23 (by decide) (fun _ => ?_) (fun c9 => absurd (by decide) c9)
      refine lv_iconst (v := 1) hx hb d_law_429 (by decide) ?_
      refine va_forget (fun q hq => hAe _ (hS.2.2 q hq)) ?_
      refine W.widen (k := 60000) (n := 8922250) (Nat.le_of_ble_eq_true rfl) (Nat.le_of_ble_eq_true rfl) ?_
      exact lw_ret hx hb hr hlocks d_law_430
    · refine lv_tableIn (tgt := 265) (off := 233) hx hb d_law_32 (by decide) (by decide) (by decide) (by decide) ?_
      refine lv_aload_n hx hb d_law_265 rfl (lv_at hl 2 rfl) ?_
      refine lv_aload_n hx hb d_law_266 rfl (lv_at hl 3 rfl) ?_
      refine lv_iload_n hx hb d_law_267 rfl (lv_at hl 0 rfl) ?_
      refine lv_iconst (v := 1) hx hb d_law_268 (by decide) ?_
      refine lv_iadd hx hb d_law_269 ?_
      refine lv_topi (fun x142 ex142 => ?_)
      obtain rfl : x142 = (1 : Int32) := ex142.trans (by decide)
      refine va_sld hx hb hX hbl hbA hS (i := 1) (by unfold vp_in; decide) d_law_270 ?_
      refine W.eq (g2 := F0 m 271 ls [.int s1, .ref q1]) (by rw [es1]; try rfl) ?_
      refine lv_aload_n hx hb d_law_271 rfl (lv_at hl 3 rfl) ?_
      refine lv_iload_n hx hb d_law_272 rfl (lv_at hl 0 rfl) ?_
      refine lv_iconst (v := 2) hx hb d_law_273 (by decide) ?_
      refine lv_iadd hx hb d_law_274 ?_
      refine lv_topi (fun x144 ex144 => ?_)
      obtain rfl : x144 = (2 : Int32) := ex144.trans (by decide)
      refine va_sld hx hb hX hbl hbA hS (i := 2) (by unfold vp_in; decide) d_law_275 ?_
      refine W.eq (g2 := F0 m 276 ls [.int s2, .int s1, .ref q1]) (by rw [es2]; try rfl) ?_
      refine gk_back (wr := [(q2, .inl (E.2.1 1, 3000, .inl (fun _ => 0))), (q4, .inr (5, [.int 0, .ref E.2.2, .int 0])), (q5, .inr (2, [.ref q10, .ref q11, .ref q12, .ref q13, .ref q14, .ref q15, .ref q16, .int 0, .int 0, .long 0, .int 0, .int 0])), (q10, .inr (3, [.ref q17, .ref q18, .ref q19, .ref q20, .ref q21, .ref q22, .ref q23, .int 0])), (q24, .inr (10, [.int 0, .ref q25, .ref q26, .int 0, .ref q27, .ref q28, .ref q29, .ref q30, .ref q31, .ref q32, .ref q33, .ref q34, .ref q35, .ref q36, .ref q37, .ref q38, .ref q39, .ref q40, .ref q41, .int 0, .int 0, .int 0, .int 0, .ref q42, .ref q43, .ref q44, .ref q45, .int 0, .int 0, .ref q46, .ref q47, .int 0, .int 0, .int 0, .int 0, .int 0, .int 0, .int 0, .int 0, .ref q48, .int 0, .int 0, .int 0, .int 0, .ref q49, .ref q50, .ref q51, .ref q52, .ref q53, .ref q54, .ref q55, .ref q56, .int 0, .int 0, .ref q57, .ref q58, .ref q59, .int 0, .ref q60, .ref q61, .ref q62, .ref q63, .ref q64, .ref q65, .ref q66, .ref q67, .ref q68, .int 0, .ref q69, .ref q70, .ref q71, .ref q72, .ref q73, .int 0, .ref q74, .ref q75, .ref q76, .int 0, .int 0, .ref q77, .ref q78])), (q27, .inl (E.2.1 0, 13, .inl (fun _ => 0))), (q26, .inl (E.2.1 0, 3000, .inl (fun _ => 0)))]) (gk_runV (As := [.int s1, .int s2]) (rest := []) (ci := 0) (q0 := 0) X (c_Jt_fault l E q1 q2 q3 q4 q5 q6 q7 q8 q9 s1 s2 H.size) ok_Jt_fault (Or.inl k_959) k_960 k_961 rfl rfl rfl hP hD hS [0, 2] rfl rfl hl.1 rfl (Nat.le_of_ble_eq_true rfl) d_law_276 ⟨(Nat.le_of_ble_eq_true rfl), (Nat.le_of_ble_eq_true rfl)⟩ ⟨(Nat.le_of_ble_eq_true rfl), (Nat.le_of_ble_eq_true rfl)⟩) hP hD hS X.2.2.2.2.2.2.2.1 [0, 2] [1, 3, 4, 5, 6, 7, 8] rfl rfl rfl (by decide) (fun r w H locs hB hP hD hS => ?_)
      obtain ⟨rfl, rfl⟩ := hB
      have hP : va_P E.1 gk_cl [(q2, .inl (E.2.1 1, 3000, .inl (fun _ => 0))), (q4, .inr (5, [.int 0, .ref E.2.2, .int 0])), (q5, .inr (2, [.ref q10, .ref q11, .ref q12, .ref q13, .ref q14, .ref q15, .ref q16, .int 0, .int 0, .long 0, .int 0, .int 0])), (q10, .inr (3, [.ref q17, .ref q18, .ref q19, .ref q20, .ref q21, .ref q22, .ref q23, .int 0])), (q24, .inr (10, [.int 0, .ref q25, .ref q26, .int 0, .ref q27, .ref q28, .ref q29, .ref q30, .ref q31, .ref q32, .ref q33, .ref q34, .ref q35, .ref q36, .ref q37, .ref q38, .ref q39, .ref q40, .ref q41, .int 0, .int 0, .int 0, .int 0, .ref q42, .ref q43, .ref q44, .ref q45, .int 0, .int 0, .ref q46, .ref q47, .int 0, .int 0, .int 0, .int 0, .int 0, .int 0, .int 0, .int 0, .ref q48, .int 0, .int 0, .int 0, .int 0, .ref q49, .ref q50, .ref q51, .ref q52, .ref q53, .ref q54, .ref q55, .ref q56, .int 0, .int 0, .ref q57, .ref q58, .ref q59, .int 0, .ref q60, .ref q61, .ref q62, .ref q63, .ref q64, .ref q65, .ref q66, .ref q67, .ref q68, .int 0, .ref q69, .ref q70, .ref q71, .ref q72, .ref q73, .int 0, .ref q74, .ref q75, .ref q76, .int 0, .int 0, .ref q77, .ref q78])), (q27, .inl (E.2.1 0, 13, .inl (fun _ => 0))), (q26, .inl (E.2.1 0, 3000, .inl (fun _ => 0)))] H := hP
      have hD : va_D A [(q2, .inl (E.2.1 1, 3000, .inl (fun _ => 0))), (q4, .inr (5, [.int 0, .ref E.2.2, .int 0])), (q5, .inr (2, [.ref q10, .ref q11, .ref q12, .ref q13, .ref q14, .ref q15, .ref q16, .int 0, .int 0, .long 0, .int 0, .int 0])), (q10, .inr (3, [.ref q17, .ref q18, .ref q19, .ref q20, .ref q21, .ref q22, .ref q23, .int 0])), (q24, .inr (10, [.int 0, .ref q25, .ref q26, .int 0, .ref q27, .ref q28, .ref q29, .ref q30, .ref q31, .ref q32, .ref q33, .ref q34, .ref q35, .ref q36, .ref q37, .ref q38, .ref q39, .ref q40, .ref q41, .int 0, .int 0, .int 0, .int 0, .ref q42, .ref q43, .ref q44, .ref q45, .int 0, .int 0, .ref q46, .ref q47, .int 0, .int 0, .int 0, .int 0, .int 0, .int 0, .int 0, .int 0, .ref q48, .int 0, .int 0, .int 0, .int 0, .ref q49, .ref q50, .ref q51, .ref q52, .ref q53, .ref q54, .ref q55, .ref q56, .int 0, .int 0, .ref q57, .ref q58, .ref q59, .int 0, .ref q60, .ref q61, .ref q62, .ref q63, .ref q64, .ref q65, .ref q66, .ref q67, .ref q68, .int 0, .ref q69, .ref q70, .ref q71, .ref q72, .ref q73, .int 0, .ref q74, .ref q75, .ref q76, .int 0, .int 0, .ref q77, .ref q78])), (q27, .inl (E.2.1 0, 13, .inl (fun _ => 0))), (q26, .inl (E.2.1 0, 3000, .inl (fun _ => 0)))] := hD
      refine W.widen (k := 85) (n := 1318515) (by omega) (by omega) ?_
      refine W.eq (g2 := F0 m 279 ls [.int (-1)]) rfl ?_
      refine lv_aload_n hx hb d_law_279 rfl (lv_at hl 1 rfl) ?_
      refine lv_aload_n hx hb d_law_280 rfl (lv_at hl 3 rfl) ?_
      refine lv_iload_n hx hb d_law_281 rfl (lv_at hl 0 rfl) ?_
      refine lv_iconst (v := 1) hx hb d_law_282 (by decide) ?_
      refine lv_iadd hx hb d_law_283 ?_
      refine lv_topi (fun x146 ex146 => ?_)
      obtain rfl : x146 = (1 : Int32) := ex146.trans (by decide)
      refine va_sld hx hb hX hbl hbA hS (i := 1) (by unfold vp_in; decide) d_law_284 ?_
      refine W.eq (g2 := F0 m 285 ls [.int s1, .ref q24, .int (-1)]) (by rw [es1]; try rfl) ?_
      refine lv_aload_n hx hb d_law_285 rfl (lv_at hl 3 rfl) ?_
      refine lv_iload_n hx hb d_law_286 rfl (lv_at hl 0 rfl) ?_
      refine lv_iconst (v := 2) hx hb d_law_287 (by decide) ?_
      refine lv_iadd hx hb d_law_288 ?_
      refine lv_topi (fun x148 ex148 => ?_)
      obtain rfl : x148 = (2 : Int32) := ex148.trans (by decide)
      refine va_sld hx hb hX hbl hbA hS (i := 2) (by unfold vp_in; decide) d_law_289 ?_
      refine W.eq (g2 := F0 m 290 ls [.int s2, .int s1, .ref q24, .int (-1)]) (by rw [es2]; try rfl) ?_
      refine gk_back (wr := [(q2, .inl (E.2.1 1, 3000, .inl (fun _ => 0))), (q4, .inr (5, [.int 0, .ref E.2.2, .int 0])), (q5, .inr (2, [.ref q10, .ref q11, .ref q12, .ref q13, .ref q14, .ref q15, .ref q16, .int 0, .int 0, .long 0, .int 0, .int 0])), (q10, .inr (3, [.ref q17, .ref q18, .ref q19, .ref q20, .ref q21, .ref q22, .ref q23, .int 0])), (q27, .inl (E.2.1 0, 13, .inl (fun _ => 0))), (q26, .inl (E.2.1 0, 3000, .inl (fun _ => 0)))]) (gk_runV (As := [.int s1, .int s2]) (rest := [.int (-1)]) (ci := 10) (q0 := 4) X (c_Mo_fault l E q24 q25 q26 q27 q28 q29 q30 q31 q32 q33 q34 q35 q36 q37 q38 q39 q40 q41 q42 q43 q44 q45 q46 q47 q48 q49 q50 q51 q52 q53 q54 q55 q56 q57 q58 q59 q60 q61 q62 q63 q64 q65 q66 q67 q68 q69 q70 q71 q72 q73 q74 q75 q76 q77 q78 s1 s2 H.size) ok_Mo_fault (Or.inl k_1855) k_1856 k_1857 rfl rfl rfl hP hD hS [4] rfl rfl hl.1 rfl (Nat.le_of_ble_eq_true rfl) d_law_290 ⟨(Nat.le_of_ble_eq_true rfl), (Nat.le_of_ble_eq_true rfl)⟩ ⟨(Nat.le_of_ble_eq_true rfl), (Nat.le_of_ble_eq_true rfl)⟩) hP hD hS X.2.2.2.2.2.2.2.1 [4] [0, 1, 2, 3, 5, 6] rfl rfl rfl (by decide) (fun r w H locs hB hP hD hS => ?_)
      obtain ⟨rfl, rfl⟩ := hB
      have hP : va_P E.1 gk_cl [(q2, .inl (E.2.1 1, 3000, .inl (fun _ => 0))), (q4, .inr (5, [.int 0, .ref E.2.2, .int 0])), (q5, .inr (2, [.ref q10, .ref q11, .ref q12, .ref q13, .ref q14, .ref q15, .ref q16, .int 0, .int 0, .long 0, .int 0, .int 0])), (q10, .inr (3, [.ref q17, .ref q18, .ref q19, .ref q20, .ref q21, .ref q22, .ref q23, .int 0])), (q27, .inl (E.2.1 0, 13, .inl (fun _ => 0))), (q26, .inl (E.2.1 0, 3000, .inl (fun _ => 0)))] H := hP
      have hD : va_D A [(q2, .inl (E.2.1 1, 3000, .inl (fun _ => 0))), (q4, .inr (5, [.int 0, .ref E.2.2, .int 0])), (q5, .inr (2, [.ref q10, .ref q11, .ref q12, .ref q13, .ref q14, .ref q15, .ref q16, .int 0, .int 0, .long 0, .int 0, .int 0])), (q10, .inr (3, [.ref q17, .ref q18, .ref q19, .ref q20, .ref q21, .ref q22, .ref q23, .int 0])), (q27, .inl (E.2.1 0, 13, .inl (fun _ => 0))), (q26, .inl (E.2.1 0, 3000, .inl (fun _ => 0)))] := hD
      refine W.widen (k := 85) (n := 1318515) (by omega) (by omega) ?_
      refine W.eq (g2 := F0 m 293 ls [.int (-1), .int (-1)]) rfl ?_
      refine lv_icmp_eq (tgt := 423) hx hb d_law_293 (by decide) (fun _ => ?_) (fun c9 => absurd (by decide) c9)
      refine lv_iinc (v := 4) (lv' := [(3, .int 4), (2, .ref q24), (1, .ref q1), (0, .ref b)]) hx hb d_law_423 hl (k := 0) rfl (by decide) (by decide) rfl (fun ls hl => ?_)
      refine lv_goto (tgt := 18) hx hb d_law_426 (by decide) ?_
      refine lv_iload_n hx hb d_law_18 rfl (lv_at hl 0 rfl) ?_
      refine lv_aload_n hx hb d_law_19 rfl (lv_at hl 3 rfl) ?_
      refine va_slen hx hb hX hbl hbA hS d_law_20 ?_
      refine lv_topi (fun x150 ex150 => ?_)
      obtain rfl : x150 = (4 : Int32) := ex150.trans (by decide)
      refine lv_iconst (v := 4) hx hb d_law_21 (by decide) ?_
      refine lv_isub hx hb d_law_22 ?_
      refine lv_topi (fun x151 ex151 => ?_)
      obtain rfl : x151 = (0 : Int32) := ex151.trans (by decide)
      refine lv_icmp_gt (tgt := 429) hx hb d_law_23 (by decide) (fun _ => ?_) (fun c9 => absurd (by decide) c9)
      refine lv_iconst (v := 1) hx hb d_law_429 (by decide) ?_
      refine va_forget (fun q hq => hAe _ (hS.2.2 q hq)) ?_
      refine W.widen (k := 60000) (n := 8922250) (Nat.le_of_ble_eq_true rfl) (Nat.le_of_ble_eq_true rfl) ?_
      exact lw_ret hx hb hr hlocks d_law_430
    · refine lv_tableIn (tgt := 298) (off := 266) hx hb d_law_32 (by decide) (by decide) (by decide) (by decide) ?_
      refine lv_aload_n hx hb d_law_298 rfl (lv_at hl 2 rfl) ?_
      refine gk_back (wr := [(q2, .inl (E.2.1 1, 3000, .inl (fun _ => 0))), (q3, .inr (1, [.ref q6, .ref q7, .ref q8, .ref q9, .int 0])), (q4, .inr (5, [.int 0, .ref E.2.2, .int 0])), (q5, .inr (2, [.ref q10, .ref q11, .ref q12, .ref q13, .ref q14, .ref q15, .ref q16, .int 0, .int 0, .long 0, .int 0, .int 0])), (q10, .inr (3, [.ref q17, .ref q18, .ref q19, .ref q20, .ref q21, .ref q22, .ref q23, .int 0])), (q24, .inr (10, [.int 0, .ref q25, .ref q26, .int 0, .ref q27, .ref q28, .ref q29, .ref q30, .ref q31, .ref q32, .ref q33, .ref q34, .ref q35, .ref q36, .ref q37, .ref q38, .ref q39, .ref q40, .ref q41, .int 0, .int 0, .int 0, .int 0, .ref q42, .ref q43, .ref q44, .ref q45, .int 0, .int 0, .ref q46, .ref q47, .int 0, .int 0, .int 0, .int 0, .int 0, .int 0, .int 0, .int 0, .ref q48, .int 0, .int 0, .int 0, .int 0, .ref q49, .ref q50, .ref q51, .ref q52, .ref q53, .ref q54, .ref q55, .ref q56, .int 0, .int 0, .ref q57, .ref q58, .ref q59, .int 0, .ref q60, .ref q61, .ref q62, .ref q63, .ref q64, .ref q65, .ref q66, .ref q67, .ref q68, .int 0, .ref q69, .ref q70, .ref q71, .ref q72, .ref q73, .int 0, .ref q74, .ref q75, .ref q76, .int 0, .int 0, .ref q77, .ref q78])), (q27, .inl (E.2.1 0, 13, .inl (fun _ => 0))), (q26, .inl (E.2.1 0, 3000, .inl (fun _ => 0)))]) (gk_runV (As := []) (rest := []) (ci := 0) (q0 := 0) X (c_Jt_expand l E q1 q2 q3 q4 q5 H.size) ok_Jt_expand (Or.inl k_967) k_968 k_969 rfl rfl rfl hP hD hS [0] rfl rfl hl.1 rfl (Nat.le_of_ble_eq_true rfl) d_law_299 ⟨(Nat.le_of_ble_eq_true rfl), (Nat.le_of_ble_eq_true rfl)⟩ ⟨(Nat.le_of_ble_eq_true rfl), (Nat.le_of_ble_eq_true rfl)⟩) hP hD hS X.2.2.2.2.2.2.2.1 [0] [1, 2, 3, 4, 5, 6, 7, 8] rfl rfl rfl (by decide) (fun r w H locs hB hP hD hS => ?_)
      obtain ⟨rfl, rfl⟩ := hB
      have hP : va_P E.1 gk_cl [(q2, .inl (E.2.1 1, 3000, .inl (fun _ => 0))), (q3, .inr (1, [.ref q6, .ref q7, .ref q8, .ref q9, .int 0])), (q4, .inr (5, [.int 0, .ref E.2.2, .int 0])), (q5, .inr (2, [.ref q10, .ref q11, .ref q12, .ref q13, .ref q14, .ref q15, .ref q16, .int 0, .int 0, .long 0, .int 0, .int 0])), (q10, .inr (3, [.ref q17, .ref q18, .ref q19, .ref q20, .ref q21, .ref q22, .ref q23, .int 0])), (q24, .inr (10, [.int 0, .ref q25, .ref q26, .int 0, .ref q27, .ref q28, .ref q29, .ref q30, .ref q31, .ref q32, .ref q33, .ref q34, .ref q35, .ref q36, .ref q37, .ref q38, .ref q39, .ref q40, .ref q41, .int 0, .int 0, .int 0, .int 0, .ref q42, .ref q43, .ref q44, .ref q45, .int 0, .int 0, .ref q46, .ref q47, .int 0, .int 0, .int 0, .int 0, .int 0, .int 0, .int 0, .int 0, .ref q48, .int 0, .int 0, .int 0, .int 0, .ref q49, .ref q50, .ref q51, .ref q52, .ref q53, .ref q54, .ref q55, .ref q56, .int 0, .int 0, .ref q57, .ref q58, .ref q59, .int 0, .ref q60, .ref q61, .ref q62, .ref q63, .ref q64, .ref q65, .ref q66, .ref q67, .ref q68, .int 0, .ref q69, .ref q70, .ref q71, .ref q72, .ref q73, .int 0, .ref q74, .ref q75, .ref q76, .int 0, .int 0, .ref q77, .ref q78])), (q27, .inl (E.2.1 0, 13, .inl (fun _ => 0))), (q26, .inl (E.2.1 0, 3000, .inl (fun _ => 0)))] H := hP
      have hD : va_D A [(q2, .inl (E.2.1 1, 3000, .inl (fun _ => 0))), (q3, .inr (1, [.ref q6, .ref q7, .ref q8, .ref q9, .int 0])), (q4, .inr (5, [.int 0, .ref E.2.2, .int 0])), (q5, .inr (2, [.ref q10, .ref q11, .ref q12, .ref q13, .ref q14, .ref q15, .ref q16, .int 0, .int 0, .long 0, .int 0, .int 0])), (q10, .inr (3, [.ref q17, .ref q18, .ref q19, .ref q20, .ref q21, .ref q22, .ref q23, .int 0])), (q24, .inr (10, [.int 0, .ref q25, .ref q26, .int 0, .ref q27, .ref q28, .ref q29, .ref q30, .ref q31, .ref q32, .ref q33, .ref q34, .ref q35, .ref q36, .ref q37, .ref q38, .ref q39, .ref q40, .ref q41, .int 0, .int 0, .int 0, .int 0, .ref q42, .ref q43, .ref q44, .ref q45, .int 0, .int 0, .ref q46, .ref q47, .int 0, .int 0, .int 0, .int 0, .int 0, .int 0, .int 0, .int 0, .ref q48, .int 0, .int 0, .int 0, .int 0, .ref q49, .ref q50, .ref q51, .ref q52, .ref q53, .ref q54, .ref q55, .ref q56, .int 0, .int 0, .ref q57, .ref q58, .ref q59, .int 0, .ref q60, .ref q61, .ref q62, .ref q63, .ref q64, .ref q65, .ref q66, .ref q67, .ref q68, .int 0, .ref q69, .ref q70, .ref q71, .ref q72, .ref q73, .int 0, .ref q74, .ref q75, .ref q76, .int 0, .int 0, .ref q77, .ref q78])), (q27, .inl (E.2.1 0, 13, .inl (fun _ => 0))), (q26, .inl (E.2.1 0, 3000, .inl (fun _ => 0)))] := hD
      refine W.widen (k := 85) (n := 1318515) (by omega) (by omega) ?_
      refine W.eq (g2 := F0 m 302 ls [.int (-2)]) rfl ?_
      refine lv_aload_n hx hb d_law_302 rfl (lv_at hl 1 rfl) ?_
      refine gk_back (wr := [(q2, .inl (E.2.1 1, 3000, .inl (fun _ => 0))), (q3, .inr (1, [.ref q6, .ref q7, .ref q8, .ref q9, .int 0])), (q4, .inr (5, [.int 0, .ref E.2.2, .int 0])), (q5, .inr (2, [.ref q10, .ref q11, .ref q12, .ref q13, .ref q14, .ref q15, .ref q16, .int 0, .int 0, .long 0, .int 0, .int 0])), (q10, .inr (3, [.ref q17, .ref q18, .ref q19, .ref q20, .ref q21, .ref q22, .ref q23, .int 0])), (q27, .inl (E.2.1 0, 13, .inl (fun _ => 0))), (q26, .inl (E.2.1 0, 3000, .inl (fun _ => 0)))]) (gk_runV (As := []) (rest := [.int (-2)]) (ci := 10) (q0 := 5) X (c_Mo_expand l E q24 q25 q26 q27 q28 q29 q30 q31 q32 q33 q34 q35 q36 q37 q38 q39 q40 q41 q42 q43 q44 q45 q46 q47 q48 q49 q50 q51 q52 q53 q54 q55 q56 q57 q58 q59 q60 q61 q62 q63 q64 q65 q66 q67 q68 q69 q70 q71 q72 q73 q74 q75 q76 q77 q78 H.size) ok_Mo_expand (Or.inl k_1750) k_1751 k_1752 rfl rfl rfl hP hD hS [5] rfl rfl hl.1 rfl (Nat.le_of_ble_eq_true rfl) d_law_303 ⟨(Nat.le_of_ble_eq_true rfl), (Nat.le_of_ble_eq_true rfl)⟩ ⟨(Nat.le_of_ble_eq_true rfl), (Nat.le_of_ble_eq_true rfl)⟩) hP hD hS X.2.2.2.2.2.2.2.1 [5] [0, 1, 2, 3, 4, 6, 7] rfl rfl rfl (by decide) (fun r w H locs hB hP hD hS => ?_)
      obtain ⟨rfl, rfl⟩ := hB
      have hP : va_P E.1 gk_cl [(q2, .inl (E.2.1 1, 3000, .inl (fun _ => 0))), (q3, .inr (1, [.ref q6, .ref q7, .ref q8, .ref q9, .int 0])), (q4, .inr (5, [.int 0, .ref E.2.2, .int 0])), (q5, .inr (2, [.ref q10, .ref q11, .ref q12, .ref q13, .ref q14, .ref q15, .ref q16, .int 0, .int 0, .long 0, .int 0, .int 0])), (q10, .inr (3, [.ref q17, .ref q18, .ref q19, .ref q20, .ref q21, .ref q22, .ref q23, .int 0])), (q27, .inl (E.2.1 0, 13, .inl (fun _ => 0))), (q26, .inl (E.2.1 0, 3000, .inl (fun _ => 0)))] H := hP
      have hD : va_D A [(q2, .inl (E.2.1 1, 3000, .inl (fun _ => 0))), (q3, .inr (1, [.ref q6, .ref q7, .ref q8, .ref q9, .int 0])), (q4, .inr (5, [.int 0, .ref E.2.2, .int 0])), (q5, .inr (2, [.ref q10, .ref q11, .ref q12, .ref q13, .ref q14, .ref q15, .ref q16, .int 0, .int 0, .long 0, .int 0, .int 0])), (q10, .inr (3, [.ref q17, .ref q18, .ref q19, .ref q20, .ref q21, .ref q22, .ref q23, .int 0])), (q27, .inl (E.2.1 0, 13, .inl (fun _ => 0))), (q26, .inl (E.2.1 0, 3000, .inl (fun _ => 0)))] := hD
      refine W.widen (k := 85) (n := 1318515) (by omega) (by omega) ?_
      refine W.eq (g2 := F0 m 306 ls [.int (-2), .int (-2)]) rfl ?_
      refine lv_icmp_eq (tgt := 423) hx hb d_law_306 (by decide) (fun _ => ?_) (fun c9 => absurd (by decide) c9)
      refine lv_iinc (v := 4) (lv' := [(3, .int 4), (2, .ref q24), (1, .ref q1), (0, .ref b)]) hx hb d_law_423 hl (k := 0) rfl (by decide) (by decide) rfl (fun ls hl => ?_)
      refine lv_goto (tgt := 18) hx hb d_law_426 (by decide) ?_
      refine lv_iload_n hx hb d_law_18 rfl (lv_at hl 0 rfl) ?_
      refine lv_aload_n hx hb d_law_19 rfl (lv_at hl 3 rfl) ?_
      refine va_slen hx hb hX hbl hbA hS d_law_20 ?_
      refine lv_topi (fun x152 ex152 => ?_)
      obtain rfl : x152 = (4 : Int32) := ex152.trans (by decide)
      refine lv_iconst (v := 4) hx hb d_law_21 (by decide) ?_
      refine lv_isub hx hb d_law_22 ?_
      refine lv_topi (fun x153 ex153 => ?_)
      obtain rfl : x153 = (0 : Int32) := ex153.trans (by decide)
      refine lv_icmp_gt (tgt := 429) hx hb d_law_23 (by decide) (fun _ => ?_) (fun c9 => absurd (by decide) c9)
      refine lv_iconst (v := 1) hx hb d_law_429 (by decide) ?_
      refine va_forget (fun q hq => hAe _ (hS.2.2 q hq)) ?_
      refine W.widen (k := 60000) (n := 8922250) (Nat.le_of_ble_eq_true rfl) (Nat.le_of_ble_eq_true rfl) ?_
      exact lw_ret hx hb hr hlocks d_law_430
    · refine lv_tableIn (tgt := 311) (off := 279) hx hb d_law_32 (by decide) (by decide) (by decide) (by decide) ?_
      refine lv_aload_n hx hb d_law_311 rfl (lv_at hl 2 rfl) ?_
      refine lv_aload_n hx hb d_law_312 rfl (lv_at hl 3 rfl) ?_
      refine lv_iload_n hx hb d_law_313 rfl (lv_at hl 0 rfl) ?_
      refine lv_iconst (v := 1) hx hb d_law_314 (by decide) ?_
      refine lv_iadd hx hb d_law_315 ?_
      refine lv_topi (fun x154 ex154 => ?_)
      obtain rfl : x154 = (1 : Int32) := ex154.trans (by decide)
      refine va_sld hx hb hX hbl hbA hS (i := 1) (by unfold vp_in; decide) d_law_316 ?_
      refine W.eq (g2 := F0 m 317 ls [.int s1, .ref q1]) (by rw [es1]; try rfl) ?_
      refine lv_aload_n hx hb d_law_317 rfl (lv_at hl 3 rfl) ?_
      refine lv_iload_n hx hb d_law_318 rfl (lv_at hl 0 rfl) ?_
      refine lv_iconst (v := 2) hx hb d_law_319 (by decide) ?_
      refine lv_iadd hx hb d_law_320 ?_
      refine lv_topi (fun x156 ex156 => ?_)
      obtain rfl : x156 = (2 : Int32) := ex156.trans (by decide)
      refine va_sld hx hb hX hbl hbA hS (i := 2) (by unfold vp_in; decide) d_law_321 ?_
      refine W.eq (g2 := F0 m 322 ls [.int s2, .int s1, .ref q1]) (by rw [es2]; try rfl) ?_
      refine gk_back (wr := [(q2, .inl (E.2.1 1, 3000, .inl (fun _ => 0))), (q3, .inr (1, [.ref q6, .ref q7, .ref q8, .ref q9, .int 0])), (q4, .inr (5, [.int 0, .ref E.2.2, .int 0])), (q24, .inr (10, [.int 0, .ref q25, .ref q26, .int 0, .ref q27, .ref q28, .ref q29, .ref q30, .ref q31, .ref q32, .ref q33, .ref q34, .ref q35, .ref q36, .ref q37, .ref q38, .ref q39, .ref q40, .ref q41, .int 0, .int 0, .int 0, .int 0, .ref q42, .ref q43, .ref q44, .ref q45, .int 0, .int 0, .ref q46, .ref q47, .int 0, .int 0, .int 0, .int 0, .int 0, .int 0, .int 0, .int 0, .ref q48, .int 0, .int 0, .int 0, .int 0, .ref q49, .ref q50, .ref q51, .ref q52, .ref q53, .ref q54, .ref q55, .ref q56, .int 0, .int 0, .ref q57, .ref q58, .ref q59, .int 0, .ref q60, .ref q61, .ref q62, .ref q63, .ref q64, .ref q65, .ref q66, .ref q67, .ref q68, .int 0, .ref q69, .ref q70, .ref q71, .ref q72, .ref q73, .int 0, .ref q74, .ref q75, .ref q76, .int 0, .int 0, .ref q77, .ref q78])), (q27, .inl (E.2.1 0, 13, .inl (fun _ => 0))), (q26, .inl (E.2.1 0, 3000, .inl (fun _ => 0)))]) (gk_runV (As := [.int s1, .int s2]) (rest := []) (ci := 0) (q0 := 0) X (c_Jt_at l E q1 q2 q3 q4 q5 q10 q11 q12 q13 q14 q15 q16 q17 q18 q19 q20 q21 q22 q23 s1 s2 H.size) ok_Jt_at (Or.inl k_1298) k_1299 k_1300 rfl rfl rfl hP hD hS [0, 4, 5] rfl rfl hl.1 rfl (Nat.le_of_ble_eq_true rfl) d_law_322 ⟨(Nat.le_of_ble_eq_true rfl), (Nat.le_of_ble_eq_true rfl)⟩ ⟨(Nat.le_of_ble_eq_true rfl), (Nat.le_of_ble_eq_true rfl)⟩) hP hD hS X.2.2.2.2.2.2.2.1 [0, 4, 5] [1, 2, 3, 6, 7, 8] rfl rfl rfl (by decide) (fun r w H locs hB hP hD hS => ?_)
      obtain ⟨rfl, rfl⟩ := hB
      have hP : va_P E.1 gk_cl [(q2, .inl (E.2.1 1, 3000, .inl (fun _ => 0))), (q3, .inr (1, [.ref q6, .ref q7, .ref q8, .ref q9, .int 0])), (q4, .inr (5, [.int 0, .ref E.2.2, .int 0])), (q24, .inr (10, [.int 0, .ref q25, .ref q26, .int 0, .ref q27, .ref q28, .ref q29, .ref q30, .ref q31, .ref q32, .ref q33, .ref q34, .ref q35, .ref q36, .ref q37, .ref q38, .ref q39, .ref q40, .ref q41, .int 0, .int 0, .int 0, .int 0, .ref q42, .ref q43, .ref q44, .ref q45, .int 0, .int 0, .ref q46, .ref q47, .int 0, .int 0, .int 0, .int 0, .int 0, .int 0, .int 0, .int 0, .ref q48, .int 0, .int 0, .int 0, .int 0, .ref q49, .ref q50, .ref q51, .ref q52, .ref q53, .ref q54, .ref q55, .ref q56, .int 0, .int 0, .ref q57, .ref q58, .ref q59, .int 0, .ref q60, .ref q61, .ref q62, .ref q63, .ref q64, .ref q65, .ref q66, .ref q67, .ref q68, .int 0, .ref q69, .ref q70, .ref q71, .ref q72, .ref q73, .int 0, .ref q74, .ref q75, .ref q76, .int 0, .int 0, .ref q77, .ref q78])), (q27, .inl (E.2.1 0, 13, .inl (fun _ => 0))), (q26, .inl (E.2.1 0, 3000, .inl (fun _ => 0)))] H := hP
      have hD : va_D A [(q2, .inl (E.2.1 1, 3000, .inl (fun _ => 0))), (q3, .inr (1, [.ref q6, .ref q7, .ref q8, .ref q9, .int 0])), (q4, .inr (5, [.int 0, .ref E.2.2, .int 0])), (q24, .inr (10, [.int 0, .ref q25, .ref q26, .int 0, .ref q27, .ref q28, .ref q29, .ref q30, .ref q31, .ref q32, .ref q33, .ref q34, .ref q35, .ref q36, .ref q37, .ref q38, .ref q39, .ref q40, .ref q41, .int 0, .int 0, .int 0, .int 0, .ref q42, .ref q43, .ref q44, .ref q45, .int 0, .int 0, .ref q46, .ref q47, .int 0, .int 0, .int 0, .int 0, .int 0, .int 0, .int 0, .int 0, .ref q48, .int 0, .int 0, .int 0, .int 0, .ref q49, .ref q50, .ref q51, .ref q52, .ref q53, .ref q54, .ref q55, .ref q56, .int 0, .int 0, .ref q57, .ref q58, .ref q59, .int 0, .ref q60, .ref q61, .ref q62, .ref q63, .ref q64, .ref q65, .ref q66, .ref q67, .ref q68, .int 0, .ref q69, .ref q70, .ref q71, .ref q72, .ref q73, .int 0, .ref q74, .ref q75, .ref q76, .int 0, .int 0, .ref q77, .ref q78])), (q27, .inl (E.2.1 0, 13, .inl (fun _ => 0))), (q26, .inl (E.2.1 0, 3000, .inl (fun _ => 0)))] := hD
      refine W.widen (k := 85) (n := 1318515) (by omega) (by omega) ?_
      refine W.eq (g2 := F0 m 325 ls [.int (-1)]) rfl ?_
      refine lv_aload_n hx hb d_law_325 rfl (lv_at hl 1 rfl) ?_
      refine lv_aload_n hx hb d_law_326 rfl (lv_at hl 3 rfl) ?_
      refine lv_iload_n hx hb d_law_327 rfl (lv_at hl 0 rfl) ?_
      refine lv_iconst (v := 1) hx hb d_law_328 (by decide) ?_
      refine lv_iadd hx hb d_law_329 ?_
      refine lv_topi (fun x158 ex158 => ?_)
      obtain rfl : x158 = (1 : Int32) := ex158.trans (by decide)
      refine va_sld hx hb hX hbl hbA hS (i := 1) (by unfold vp_in; decide) d_law_330 ?_
      refine W.eq (g2 := F0 m 331 ls [.int s1, .ref q24, .int (-1)]) (by rw [es1]; try rfl) ?_
      refine lv_aload_n hx hb d_law_331 rfl (lv_at hl 3 rfl) ?_
      refine lv_iload_n hx hb d_law_332 rfl (lv_at hl 0 rfl) ?_
      refine lv_iconst (v := 2) hx hb d_law_333 (by decide) ?_
      refine lv_iadd hx hb d_law_334 ?_
      refine lv_topi (fun x160 ex160 => ?_)
      obtain rfl : x160 = (2 : Int32) := ex160.trans (by decide)
      refine va_sld hx hb hX hbl hbA hS (i := 2) (by unfold vp_in; decide) d_law_335 ?_
      refine W.eq (g2 := F0 m 336 ls [.int s2, .int s1, .ref q24, .int (-1)]) (by rw [es2]; try rfl) ?_
      refine gk_back (wr := [(q2, .inl (E.2.1 1, 3000, .inl (fun _ => 0))), (q3, .inr (1, [.ref q6, .ref q7, .ref q8, .ref q9, .int 0])), (q4, .inr (5, [.int 0, .ref E.2.2, .int 0])), (q27, .inl (E.2.1 0, 13, .inl (fun _ => 0))), (q26, .inl (E.2.1 0, 3000, .inl (fun _ => 0)))]) (gk_runV (As := [.int s1, .int s2]) (rest := [.int (-1)]) (ci := 10) (q0 := 3) X (c_Mo_at l E q24 q25 q26 q27 q28 q29 q30 q31 q32 q33 q34 q35 q36 q37 q38 q39 q40 q41 q42 q43 q44 q45 q46 q47 q48 q49 q50 q51 q52 q53 q54 q55 q56 q57 q58 q59 q60 q61 q62 q63 q64 q65 q66 q67 q68 q69 q70 q71 q72 q73 q74 q75 q76 q77 q78 s1 s2 H.size) ok_Mo_at (Or.inl k_1859) k_1860 k_1861 rfl rfl rfl hP hD hS [3] rfl rfl hl.1 rfl (Nat.le_of_ble_eq_true rfl) d_law_336 ⟨(Nat.le_of_ble_eq_true rfl), (Nat.le_of_ble_eq_true rfl)⟩ ⟨(Nat.le_of_ble_eq_true rfl), (Nat.le_of_ble_eq_true rfl)⟩) hP hD hS X.2.2.2.2.2.2.2.1 [3] [0, 1, 2, 4, 5] rfl rfl rfl (by decide) (fun r w H locs hB hP hD hS => ?_)
      obtain ⟨rfl, rfl⟩ := hB
      have hP : va_P E.1 gk_cl [(q2, .inl (E.2.1 1, 3000, .inl (fun _ => 0))), (q3, .inr (1, [.ref q6, .ref q7, .ref q8, .ref q9, .int 0])), (q4, .inr (5, [.int 0, .ref E.2.2, .int 0])), (q27, .inl (E.2.1 0, 13, .inl (fun _ => 0))), (q26, .inl (E.2.1 0, 3000, .inl (fun _ => 0)))] H := hP
      have hD : va_D A [(q2, .inl (E.2.1 1, 3000, .inl (fun _ => 0))), (q3, .inr (1, [.ref q6, .ref q7, .ref q8, .ref q9, .int 0])), (q4, .inr (5, [.int 0, .ref E.2.2, .int 0])), (q27, .inl (E.2.1 0, 13, .inl (fun _ => 0))), (q26, .inl (E.2.1 0, 3000, .inl (fun _ => 0)))] := hD
      refine W.widen (k := 85) (n := 1318515) (by omega) (by omega) ?_
      refine W.eq (g2 := F0 m 339 ls [.int (-1), .int (-1)]) rfl ?_
      refine lv_icmp_eq (tgt := 423) hx hb d_law_339 (by decide) (fun _ => ?_) (fun c9 => absurd (by decide) c9)
      refine lv_iinc (v := 4) (lv' := [(3, .int 4), (2, .ref q24), (1, .ref q1), (0, .ref b)]) hx hb d_law_423 hl (k := 0) rfl (by decide) (by decide) rfl (fun ls hl => ?_)
      refine lv_goto (tgt := 18) hx hb d_law_426 (by decide) ?_
      refine lv_iload_n hx hb d_law_18 rfl (lv_at hl 0 rfl) ?_
      refine lv_aload_n hx hb d_law_19 rfl (lv_at hl 3 rfl) ?_
      refine va_slen hx hb hX hbl hbA hS d_law_20 ?_
      refine lv_topi (fun x162 ex162 => ?_)
      obtain rfl : x162 = (4 : Int32) := ex162.trans (by decide)
      refine lv_iconst (v := 4) hx hb d_law_21 (by decide) ?_
      refine lv_isub hx hb d_law_22 ?_
      refine lv_topi (fun x163 ex163 => ?_)
      obtain rfl : x163 = (0 : Int32) := ex163.trans (by decide)
      refine lv_icmp_gt (tgt := 429) hx hb d_law_23 (by decide) (fun _ => ?_) (fun c9 => absurd (by decide) c9)
      refine lv_iconst (v := 1) hx hb d_law_429 (by decide) ?_
      refine va_forget (fun q hq => hAe _ (hS.2.2 q hq)) ?_
      refine W.widen (k := 60000) (n := 8922250) (Nat.le_of_ble_eq_true rfl) (Nat.le_of_ble_eq_true rfl) ?_
      exact lw_ret hx hb hr hlocks d_law_430
    · refine lv_tableIn (tgt := 344) (off := 312) hx hb d_law_32 (by decide) (by decide) (by decide) (by decide) ?_
      refine lv_aload_n hx hb d_law_344 rfl (lv_at hl 2 rfl) ?_
      refine lv_aload_n hx hb d_law_345 rfl (lv_at hl 3 rfl) ?_
      refine lv_iload_n hx hb d_law_346 rfl (lv_at hl 0 rfl) ?_
      refine lv_iconst (v := 1) hx hb d_law_347 (by decide) ?_
      refine lv_iadd hx hb d_law_348 ?_
      refine lv_topi (fun x164 ex164 => ?_)
      obtain rfl : x164 = (1 : Int32) := ex164.trans (by decide)
      refine va_sld hx hb hX hbl hbA hS (i := 1) (by unfold vp_in; decide) d_law_349 ?_
      refine W.eq (g2 := F0 m 350 ls [.int s1, .ref q1]) (by rw [es1]; try rfl) ?_
      refine lv_aload_n hx hb d_law_350 rfl (lv_at hl 3 rfl) ?_
      refine lv_iload_n hx hb d_law_351 rfl (lv_at hl 0 rfl) ?_
      refine lv_iconst (v := 2) hx hb d_law_352 (by decide) ?_
      refine lv_iadd hx hb d_law_353 ?_
      refine lv_topi (fun x166 ex166 => ?_)
      obtain rfl : x166 = (2 : Int32) := ex166.trans (by decide)
      refine va_sld hx hb hX hbl hbA hS (i := 2) (by unfold vp_in; decide) d_law_354 ?_
      refine W.eq (g2 := F0 m 355 ls [.int s2, .int s1, .ref q1]) (by rw [es2]; try rfl) ?_
      refine gk_back (wr := [(q2, .inl (E.2.1 1, 3000, .inl (fun _ => 0))), (q3, .inr (1, [.ref q6, .ref q7, .ref q8, .ref q9, .int 0])), (q4, .inr (5, [.int 0, .ref E.2.2, .int 0])), (q24, .inr (10, [.int 0, .ref q25, .ref q26, .int 0, .ref q27, .ref q28, .ref q29, .ref q30, .ref q31, .ref q32, .ref q33, .ref q34, .ref q35, .ref q36, .ref q37, .ref q38, .ref q39, .ref q40, .ref q41, .int 0, .int 0, .int 0, .int 0, .ref q42, .ref q43, .ref q44, .ref q45, .int 0, .int 0, .ref q46, .ref q47, .int 0, .int 0, .int 0, .int 0, .int 0, .int 0, .int 0, .int 0, .ref q48, .int 0, .int 0, .int 0, .int 0, .ref q49, .ref q50, .ref q51, .ref q52, .ref q53, .ref q54, .ref q55, .ref q56, .int 0, .int 0, .ref q57, .ref q58, .ref q59, .int 0, .ref q60, .ref q61, .ref q62, .ref q63, .ref q64, .ref q65, .ref q66, .ref q67, .ref q68, .int 0, .ref q69, .ref q70, .ref q71, .ref q72, .ref q73, .int 0, .ref q74, .ref q75, .ref q76, .int 0, .int 0, .ref q77, .ref q78])), (q27, .inl (E.2.1 0, 13, .inl (fun _ => 0))), (q26, .inl (E.2.1 0, 3000, .inl (fun _ => 0)))]) (gk_runV (As := [.int s1, .int s2]) (rest := []) (ci := 0) (q0 := 0) X (c_Jt_letter l E q1 q2 q3 q4 q5 q10 q11 q12 q13 q14 q15 q16 q17 q18 q19 q20 q21 q22 q23 s1 s2 H.size) ok_Jt_letter (Or.inl k_1310) k_1311 k_1312 rfl rfl rfl hP hD hS [0, 4, 5] rfl rfl hl.1 rfl (Nat.le_of_ble_eq_true rfl) d_law_355 ⟨(Nat.le_of_ble_eq_true rfl), (Nat.le_of_ble_eq_true rfl)⟩ ⟨(Nat.le_of_ble_eq_true rfl), (Nat.le_of_ble_eq_true rfl)⟩) hP hD hS X.2.2.2.2.2.2.2.1 [0, 4, 5] [1, 2, 3, 6, 7, 8] rfl rfl rfl (by decide) (fun r w H locs hB hP hD hS => ?_)
      obtain ⟨rfl, rfl⟩ := hB
      have hP : va_P E.1 gk_cl [(q2, .inl (E.2.1 1, 3000, .inl (fun _ => 0))), (q3, .inr (1, [.ref q6, .ref q7, .ref q8, .ref q9, .int 0])), (q4, .inr (5, [.int 0, .ref E.2.2, .int 0])), (q24, .inr (10, [.int 0, .ref q25, .ref q26, .int 0, .ref q27, .ref q28, .ref q29, .ref q30, .ref q31, .ref q32, .ref q33, .ref q34, .ref q35, .ref q36, .ref q37, .ref q38, .ref q39, .ref q40, .ref q41, .int 0, .int 0, .int 0, .int 0, .ref q42, .ref q43, .ref q44, .ref q45, .int 0, .int 0, .ref q46, .ref q47, .int 0, .int 0, .int 0, .int 0, .int 0, .int 0, .int 0, .int 0, .ref q48, .int 0, .int 0, .int 0, .int 0, .ref q49, .ref q50, .ref q51, .ref q52, .ref q53, .ref q54, .ref q55, .ref q56, .int 0, .int 0, .ref q57, .ref q58, .ref q59, .int 0, .ref q60, .ref q61, .ref q62, .ref q63, .ref q64, .ref q65, .ref q66, .ref q67, .ref q68, .int 0, .ref q69, .ref q70, .ref q71, .ref q72, .ref q73, .int 0, .ref q74, .ref q75, .ref q76, .int 0, .int 0, .ref q77, .ref q78])), (q27, .inl (E.2.1 0, 13, .inl (fun _ => 0))), (q26, .inl (E.2.1 0, 3000, .inl (fun _ => 0)))] H := hP
      have hD : va_D A [(q2, .inl (E.2.1 1, 3000, .inl (fun _ => 0))), (q3, .inr (1, [.ref q6, .ref q7, .ref q8, .ref q9, .int 0])), (q4, .inr (5, [.int 0, .ref E.2.2, .int 0])), (q24, .inr (10, [.int 0, .ref q25, .ref q26, .int 0, .ref q27, .ref q28, .ref q29, .ref q30, .ref q31, .ref q32, .ref q33, .ref q34, .ref q35, .ref q36, .ref q37, .ref q38, .ref q39, .ref q40, .ref q41, .int 0, .int 0, .int 0, .int 0, .ref q42, .ref q43, .ref q44, .ref q45, .int 0, .int 0, .ref q46, .ref q47, .int 0, .int 0, .int 0, .int 0, .int 0, .int 0, .int 0, .int 0, .ref q48, .int 0, .int 0, .int 0, .int 0, .ref q49, .ref q50, .ref q51, .ref q52, .ref q53, .ref q54, .ref q55, .ref q56, .int 0, .int 0, .ref q57, .ref q58, .ref q59, .int 0, .ref q60, .ref q61, .ref q62, .ref q63, .ref q64, .ref q65, .ref q66, .ref q67, .ref q68, .int 0, .ref q69, .ref q70, .ref q71, .ref q72, .ref q73, .int 0, .ref q74, .ref q75, .ref q76, .int 0, .int 0, .ref q77, .ref q78])), (q27, .inl (E.2.1 0, 13, .inl (fun _ => 0))), (q26, .inl (E.2.1 0, 3000, .inl (fun _ => 0)))] := hD
      refine W.widen (k := 85) (n := 1318515) (by omega) (by omega) ?_
      refine W.eq (g2 := F0 m 358 ls [.int (-1)]) rfl ?_
      refine lv_aload_n hx hb d_law_358 rfl (lv_at hl 1 rfl) ?_
      refine lv_aload_n hx hb d_law_359 rfl (lv_at hl 3 rfl) ?_
      refine lv_iload_n hx hb d_law_360 rfl (lv_at hl 0 rfl) ?_
      refine lv_iconst (v := 1) hx hb d_law_361 (by decide) ?_
      refine lv_iadd hx hb d_law_362 ?_
      refine lv_topi (fun x168 ex168 => ?_)
      obtain rfl : x168 = (1 : Int32) := ex168.trans (by decide)
      refine va_sld hx hb hX hbl hbA hS (i := 1) (by unfold vp_in; decide) d_law_363 ?_
      refine W.eq (g2 := F0 m 364 ls [.int s1, .ref q24, .int (-1)]) (by rw [es1]; try rfl) ?_
      refine lv_aload_n hx hb d_law_364 rfl (lv_at hl 3 rfl) ?_
      refine lv_iload_n hx hb d_law_365 rfl (lv_at hl 0 rfl) ?_
      refine lv_iconst (v := 2) hx hb d_law_366 (by decide) ?_
      refine lv_iadd hx hb d_law_367 ?_
      refine lv_topi (fun x170 ex170 => ?_)
      obtain rfl : x170 = (2 : Int32) := ex170.trans (by decide)
      refine va_sld hx hb hX hbl hbA hS (i := 2) (by unfold vp_in; decide) d_law_368 ?_
      refine W.eq (g2 := F0 m 369 ls [.int s2, .int s1, .ref q24, .int (-1)]) (by rw [es2]; try rfl) ?_
      refine gk_back (wr := [(q2, .inl (E.2.1 1, 3000, .inl (fun _ => 0))), (q3, .inr (1, [.ref q6, .ref q7, .ref q8, .ref q9, .int 0])), (q4, .inr (5, [.int 0, .ref E.2.2, .int 0])), (q27, .inl (E.2.1 0, 13, .inl (fun _ => 0))), (q26, .inl (E.2.1 0, 3000, .inl (fun _ => 0)))]) (gk_runV (As := [.int s1, .int s2]) (rest := [.int (-1)]) (ci := 10) (q0 := 3) X (c_Mo_letter l E q24 q25 q26 q27 q28 q29 q30 q31 q32 q33 q34 q35 q36 q37 q38 q39 q40 q41 q42 q43 q44 q45 q46 q47 q48 q49 q50 q51 q52 q53 q54 q55 q56 q57 q58 q59 q60 q61 q62 q63 q64 q65 q66 q67 q68 q69 q70 q71 q72 q73 q74 q75 q76 q77 q78 s1 s2 H.size) ok_Mo_letter (Or.inl k_1863) k_1864 k_1865 rfl rfl rfl hP hD hS [3] rfl rfl hl.1 rfl (Nat.le_of_ble_eq_true rfl) d_law_369 ⟨(Nat.le_of_ble_eq_true rfl), (Nat.le_of_ble_eq_true rfl)⟩ ⟨(Nat.le_of_ble_eq_true rfl), (Nat.le_of_ble_eq_true rfl)⟩) hP hD hS X.2.2.2.2.2.2.2.1 [3] [0, 1, 2, 4, 5] rfl rfl rfl (by decide) (fun r w H locs hB hP hD hS => ?_)
      obtain ⟨rfl, rfl⟩ := hB
      have hP : va_P E.1 gk_cl [(q2, .inl (E.2.1 1, 3000, .inl (fun _ => 0))), (q3, .inr (1, [.ref q6, .ref q7, .ref q8, .ref q9, .int 0])), (q4, .inr (5, [.int 0, .ref E.2.2, .int 0])), (q27, .inl (E.2.1 0, 13, .inl (fun _ => 0))), (q26, .inl (E.2.1 0, 3000, .inl (fun _ => 0)))] H := hP
      have hD : va_D A [(q2, .inl (E.2.1 1, 3000, .inl (fun _ => 0))), (q3, .inr (1, [.ref q6, .ref q7, .ref q8, .ref q9, .int 0])), (q4, .inr (5, [.int 0, .ref E.2.2, .int 0])), (q27, .inl (E.2.1 0, 13, .inl (fun _ => 0))), (q26, .inl (E.2.1 0, 3000, .inl (fun _ => 0)))] := hD
      refine W.widen (k := 85) (n := 1318515) (by omega) (by omega) ?_
      refine W.eq (g2 := F0 m 372 ls [.int (-1), .int (-1)]) rfl ?_
      refine lv_icmp_eq (tgt := 423) hx hb d_law_372 (by decide) (fun _ => ?_) (fun c9 => absurd (by decide) c9)
      refine lv_iinc (v := 4) (lv' := [(3, .int 4), (2, .ref q24), (1, .ref q1), (0, .ref b)]) hx hb d_law_423 hl (k := 0) rfl (by decide) (by decide) rfl (fun ls hl => ?_)
      refine lv_goto (tgt := 18) hx hb d_law_426 (by decide) ?_
      refine lv_iload_n hx hb d_law_18 rfl (lv_at hl 0 rfl) ?_
      refine lv_aload_n hx hb d_law_19 rfl (lv_at hl 3 rfl) ?_
      refine va_slen hx hb hX hbl hbA hS d_law_20 ?_
      refine lv_topi (fun x172 ex172 => ?_)
      obtain rfl : x172 = (4 : Int32) := ex172.trans (by decide)
      refine lv_iconst (v := 4) hx hb d_law_21 (by decide) ?_
      refine lv_isub hx hb d_law_22 ?_
      refine lv_topi (fun x173 ex173 => ?_)
      obtain rfl : x173 = (0 : Int32) := ex173.trans (by decide)
      refine lv_icmp_gt (tgt := 429) hx hb d_law_23 (by decide) (fun _ => ?_) (fun c9 => absurd (by decide) c9)
      refine lv_iconst (v := 1) hx hb d_law_429 (by decide) ?_
      refine va_forget (fun q hq => hAe _ (hS.2.2 q hq)) ?_
      refine W.widen (k := 60000) (n := 8922250) (Nat.le_of_ble_eq_true rfl) (Nat.le_of_ble_eq_true rfl) ?_
      exact lw_ret hx hb hr hlocks d_law_430
    · refine lv_tableIn (tgt := 377) (off := 345) hx hb d_law_32 (by decide) (by decide) (by decide) (by decide) ?_
      refine lv_aload_n hx hb d_law_377 rfl (lv_at hl 2 rfl) ?_
      refine lv_aload_n hx hb d_law_378 rfl (lv_at hl 3 rfl) ?_
      refine lv_iload_n hx hb d_law_379 rfl (lv_at hl 0 rfl) ?_
      refine lv_iconst (v := 1) hx hb d_law_380 (by decide) ?_
      refine lv_iadd hx hb d_law_381 ?_
      refine lv_topi (fun x174 ex174 => ?_)
      obtain rfl : x174 = (1 : Int32) := ex174.trans (by decide)
      refine va_sld hx hb hX hbl hbA hS (i := 1) (by unfold vp_in; decide) d_law_382 ?_
      refine W.eq (g2 := F0 m 383 ls [.int s1, .ref q1]) (by rw [es1]; try rfl) ?_
      refine gk_back (wr := [(q2, .inl (E.2.1 1, 3000, .inl (fun _ => 0))), (q3, .inr (1, [.ref q6, .ref q7, .ref q8, .ref q9, .int 0])), (q4, .inr (5, [.int 0, .ref E.2.2, .int 0])), (q10, .inr (3, [.ref q17, .ref q18, .ref q19, .ref q20, .ref q21, .ref q22, .ref q23, .int 0])), (q24, .inr (10, [.int 0, .ref q25, .ref q26, .int 0, .ref q27, .ref q28, .ref q29, .ref q30, .ref q31, .ref q32, .ref q33, .ref q34, .ref q35, .ref q36, .ref q37, .ref q38, .ref q39, .ref q40, .ref q41, .int 0, .int 0, .int 0, .int 0, .ref q42, .ref q43, .ref q44, .ref q45, .int 0, .int 0, .ref q46, .ref q47, .int 0, .int 0, .int 0, .int 0, .int 0, .int 0, .int 0, .int 0, .ref q48, .int 0, .int 0, .int 0, .int 0, .ref q49, .ref q50, .ref q51, .ref q52, .ref q53, .ref q54, .ref q55, .ref q56, .int 0, .int 0, .ref q57, .ref q58, .ref q59, .int 0, .ref q60, .ref q61, .ref q62, .ref q63, .ref q64, .ref q65, .ref q66, .ref q67, .ref q68, .int 0, .ref q69, .ref q70, .ref q71, .ref q72, .ref q73, .int 0, .ref q74, .ref q75, .ref q76, .int 0, .int 0, .ref q77, .ref q78])), (q27, .inl (E.2.1 0, 13, .inl (fun _ => 0))), (q26, .inl (E.2.1 0, 3000, .inl (fun _ => 0)))]) (gk_runV (As := [.int s1]) (rest := []) (ci := 0) (q0 := 0) X (c_Jt_ring l E q1 q2 q3 q4 q5 q10 q11 q12 q13 q14 q15 q16 s1 H.size) ok_Jt_ring (Or.inl k_1328) k_1329 k_1330 rfl rfl rfl hP hD hS [0, 4] rfl rfl hl.1 rfl (Nat.le_of_ble_eq_true rfl) d_law_383 ⟨(Nat.le_of_ble_eq_true rfl), (Nat.le_of_ble_eq_true rfl)⟩ ⟨(Nat.le_of_ble_eq_true rfl), (Nat.le_of_ble_eq_true rfl)⟩) hP hD hS X.2.2.2.2.2.2.2.1 [0, 4] [1, 2, 3, 5, 6, 7, 8] rfl rfl rfl (by decide) (fun r w H locs hB hP hD hS => ?_)
      obtain ⟨rfl, rfl⟩ := hB
      have hP : va_P E.1 gk_cl [(q2, .inl (E.2.1 1, 3000, .inl (fun _ => 0))), (q3, .inr (1, [.ref q6, .ref q7, .ref q8, .ref q9, .int 0])), (q4, .inr (5, [.int 0, .ref E.2.2, .int 0])), (q10, .inr (3, [.ref q17, .ref q18, .ref q19, .ref q20, .ref q21, .ref q22, .ref q23, .int 0])), (q24, .inr (10, [.int 0, .ref q25, .ref q26, .int 0, .ref q27, .ref q28, .ref q29, .ref q30, .ref q31, .ref q32, .ref q33, .ref q34, .ref q35, .ref q36, .ref q37, .ref q38, .ref q39, .ref q40, .ref q41, .int 0, .int 0, .int 0, .int 0, .ref q42, .ref q43, .ref q44, .ref q45, .int 0, .int 0, .ref q46, .ref q47, .int 0, .int 0, .int 0, .int 0, .int 0, .int 0, .int 0, .int 0, .ref q48, .int 0, .int 0, .int 0, .int 0, .ref q49, .ref q50, .ref q51, .ref q52, .ref q53, .ref q54, .ref q55, .ref q56, .int 0, .int 0, .ref q57, .ref q58, .ref q59, .int 0, .ref q60, .ref q61, .ref q62, .ref q63, .ref q64, .ref q65, .ref q66, .ref q67, .ref q68, .int 0, .ref q69, .ref q70, .ref q71, .ref q72, .ref q73, .int 0, .ref q74, .ref q75, .ref q76, .int 0, .int 0, .ref q77, .ref q78])), (q27, .inl (E.2.1 0, 13, .inl (fun _ => 0))), (q26, .inl (E.2.1 0, 3000, .inl (fun _ => 0)))] H := hP
      have hD : va_D A [(q2, .inl (E.2.1 1, 3000, .inl (fun _ => 0))), (q3, .inr (1, [.ref q6, .ref q7, .ref q8, .ref q9, .int 0])), (q4, .inr (5, [.int 0, .ref E.2.2, .int 0])), (q10, .inr (3, [.ref q17, .ref q18, .ref q19, .ref q20, .ref q21, .ref q22, .ref q23, .int 0])), (q24, .inr (10, [.int 0, .ref q25, .ref q26, .int 0, .ref q27, .ref q28, .ref q29, .ref q30, .ref q31, .ref q32, .ref q33, .ref q34, .ref q35, .ref q36, .ref q37, .ref q38, .ref q39, .ref q40, .ref q41, .int 0, .int 0, .int 0, .int 0, .ref q42, .ref q43, .ref q44, .ref q45, .int 0, .int 0, .ref q46, .ref q47, .int 0, .int 0, .int 0, .int 0, .int 0, .int 0, .int 0, .int 0, .ref q48, .int 0, .int 0, .int 0, .int 0, .ref q49, .ref q50, .ref q51, .ref q52, .ref q53, .ref q54, .ref q55, .ref q56, .int 0, .int 0, .ref q57, .ref q58, .ref q59, .int 0, .ref q60, .ref q61, .ref q62, .ref q63, .ref q64, .ref q65, .ref q66, .ref q67, .ref q68, .int 0, .ref q69, .ref q70, .ref q71, .ref q72, .ref q73, .int 0, .ref q74, .ref q75, .ref q76, .int 0, .int 0, .ref q77, .ref q78])), (q27, .inl (E.2.1 0, 13, .inl (fun _ => 0))), (q26, .inl (E.2.1 0, 3000, .inl (fun _ => 0)))] := hD
      refine W.widen (k := 85) (n := 1318515) (by omega) (by omega) ?_
      refine W.eq (g2 := F0 m 386 ls [.int (-1)]) rfl ?_
      refine lv_aload_n hx hb d_law_386 rfl (lv_at hl 1 rfl) ?_
      refine lv_aload_n hx hb d_law_387 rfl (lv_at hl 3 rfl) ?_
      refine lv_iload_n hx hb d_law_388 rfl (lv_at hl 0 rfl) ?_
      refine lv_iconst (v := 1) hx hb d_law_389 (by decide) ?_
      refine lv_iadd hx hb d_law_390 ?_
      refine lv_topi (fun x176 ex176 => ?_)
      obtain rfl : x176 = (1 : Int32) := ex176.trans (by decide)
      refine va_sld hx hb hX hbl hbA hS (i := 1) (by unfold vp_in; decide) d_law_391 ?_
      refine W.eq (g2 := F0 m 392 ls [.int s1, .ref q24, .int (-1)]) (by rw [es1]; try rfl) ?_
      refine gk_back (wr := [(q2, .inl (E.2.1 1, 3000, .inl (fun _ => 0))), (q3, .inr (1, [.ref q6, .ref q7, .ref q8, .ref q9, .int 0])), (q4, .inr (5, [.int 0, .ref E.2.2, .int 0])), (q10, .inr (3, [.ref q17, .ref q18, .ref q19, .ref q20, .ref q21, .ref q22, .ref q23, .int 0])), (q27, .inl (E.2.1 0, 13, .inl (fun _ => 0))), (q26, .inl (E.2.1 0, 3000, .inl (fun _ => 0)))]) (gk_runV (As := [.int s1]) (rest := [.int (-1)]) (ci := 10) (q0 := 4) X (c_Mo_ring l E q24 q25 q26 q27 q28 q29 q30 q31 q32 q33 q34 q35 q36 q37 q38 q39 q40 q41 q42 q43 q44 q45 q46 q47 q48 q49 q50 q51 q52 q53 q54 q55 q56 q57 q58 q59 q60 q61 q62 q63 q64 q65 q66 q67 q68 q69 q70 q71 q72 q73 q74 q75 q76 q77 q78 s1 H.size) ok_Mo_ring (Or.inl k_1867) k_1868 k_1869 rfl rfl rfl hP hD hS [4] rfl rfl hl.1 rfl (Nat.le_of_ble_eq_true rfl) d_law_392 ⟨(Nat.le_of_ble_eq_true rfl), (Nat.le_of_ble_eq_true rfl)⟩ ⟨(Nat.le_of_ble_eq_true rfl), (Nat.le_of_ble_eq_true rfl)⟩) hP hD hS X.2.2.2.2.2.2.2.1 [4] [0, 1, 2, 3, 5, 6] rfl rfl rfl (by decide) (fun r w H locs hB hP hD hS => ?_)
      obtain ⟨rfl, rfl⟩ := hB
      have hP : va_P E.1 gk_cl [(q2, .inl (E.2.1 1, 3000, .inl (fun _ => 0))), (q3, .inr (1, [.ref q6, .ref q7, .ref q8, .ref q9, .int 0])), (q4, .inr (5, [.int 0, .ref E.2.2, .int 0])), (q10, .inr (3, [.ref q17, .ref q18, .ref q19, .ref q20, .ref q21, .ref q22, .ref q23, .int 0])), (q27, .inl (E.2.1 0, 13, .inl (fun _ => 0))), (q26, .inl (E.2.1 0, 3000, .inl (fun _ => 0)))] H := hP
      have hD : va_D A [(q2, .inl (E.2.1 1, 3000, .inl (fun _ => 0))), (q3, .inr (1, [.ref q6, .ref q7, .ref q8, .ref q9, .int 0])), (q4, .inr (5, [.int 0, .ref E.2.2, .int 0])), (q10, .inr (3, [.ref q17, .ref q18, .ref q19, .ref q20, .ref q21, .ref q22, .ref q23, .int 0])), (q27, .inl (E.2.1 0, 13, .inl (fun _ => 0))), (q26, .inl (E.2.1 0, 3000, .inl (fun _ => 0)))] := hD
      refine W.widen (k := 85) (n := 1318515) (by omega) (by omega) ?_
      refine W.eq (g2 := F0 m 395 ls [.int (-1), .int (-1)]) rfl ?_
      refine lv_icmp_eq (tgt := 423) hx hb d_law_395 (by decide) (fun _ => ?_) (fun c9 => absurd (by decide) c9)
      refine lv_iinc (v := 4) (lv' := [(3, .int 4), (2, .ref q24), (1, .ref q1), (0, .ref b)]) hx hb d_law_423 hl (k := 0) rfl (by decide) (by decide) rfl (fun ls hl => ?_)
      refine lv_goto (tgt := 18) hx hb d_law_426 (by decide) ?_
      refine lv_iload_n hx hb d_law_18 rfl (lv_at hl 0 rfl) ?_
      refine lv_aload_n hx hb d_law_19 rfl (lv_at hl 3 rfl) ?_
      refine va_slen hx hb hX hbl hbA hS d_law_20 ?_
      refine lv_topi (fun x178 ex178 => ?_)
      obtain rfl : x178 = (4 : Int32) := ex178.trans (by decide)
      refine lv_iconst (v := 4) hx hb d_law_21 (by decide) ?_
      refine lv_isub hx hb d_law_22 ?_
      refine lv_topi (fun x179 ex179 => ?_)
      obtain rfl : x179 = (0 : Int32) := ex179.trans (by decide)
      refine lv_icmp_gt (tgt := 429) hx hb d_law_23 (by decide) (fun _ => ?_) (fun c9 => absurd (by decide) c9)
      refine lv_iconst (v := 1) hx hb d_law_429 (by decide) ?_
      refine va_forget (fun q hq => hAe _ (hS.2.2 q hq)) ?_
      refine W.widen (k := 60000) (n := 8922250) (Nat.le_of_ble_eq_true rfl) (Nat.le_of_ble_eq_true rfl) ?_
      exact lw_ret hx hb hr hlocks d_law_430
    · refine lv_tableIn (tgt := 400) (off := 368) hx hb d_law_32 (by decide) (by decide) (by decide) (by decide) ?_
      refine lv_aload_n hx hb d_law_400 rfl (lv_at hl 2 rfl) ?_
      refine lv_aload_n hx hb d_law_401 rfl (lv_at hl 3 rfl) ?_
      refine lv_iload_n hx hb d_law_402 rfl (lv_at hl 0 rfl) ?_
      refine lv_iconst (v := 1) hx hb d_law_403 (by decide) ?_
      refine lv_iadd hx hb d_law_404 ?_
      refine lv_topi (fun x180 ex180 => ?_)
      obtain rfl : x180 = (1 : Int32) := ex180.trans (by decide)
      refine va_sld hx hb hX hbl hbA hS (i := 1) (by unfold vp_in; decide) d_law_405 ?_
      refine W.eq (g2 := F0 m 406 ls [.int s1, .ref q1]) (by rw [es1]; try rfl) ?_
      refine gk_back (wr := [(q2, .inl (E.2.1 1, 3000, .inl (fun _ => 0))), (q24, .inr (10, [.int 0, .ref q25, .ref q26, .int 0, .ref q27, .ref q28, .ref q29, .ref q30, .ref q31, .ref q32, .ref q33, .ref q34, .ref q35, .ref q36, .ref q37, .ref q38, .ref q39, .ref q40, .ref q41, .int 0, .int 0, .int 0, .int 0, .ref q42, .ref q43, .ref q44, .ref q45, .int 0, .int 0, .ref q46, .ref q47, .int 0, .int 0, .int 0, .int 0, .int 0, .int 0, .int 0, .int 0, .ref q48, .int 0, .int 0, .int 0, .int 0, .ref q49, .ref q50, .ref q51, .ref q52, .ref q53, .ref q54, .ref q55, .ref q56, .int 0, .int 0, .ref q57, .ref q58, .ref q59, .int 0, .ref q60, .ref q61, .ref q62, .ref q63, .ref q64, .ref q65, .ref q66, .ref q67, .ref q68, .int 0, .ref q69, .ref q70, .ref q71, .ref q72, .ref q73, .int 0, .ref q74, .ref q75, .ref q76, .int 0, .int 0, .ref q77, .ref q78])), (q27, .inl (E.2.1 0, 13, .inl (fun _ => 0))), (q26, .inl (E.2.1 0, 3000, .inl (fun _ => 0)))]) (gk_runV (As := [.int s1]) (rest := []) (ci := 0) (q0 := 0) X (c_Jt_count l E q1 q2 q3 q4 q5 q6 q7 q8 q9 q10 q11 q12 q13 q14 q15 q16 q17 q18 q19 q20 q21 q22 q23 s1 H.size) ok_Jt_count (Or.inl k_1337) k_1338 k_1339 rfl rfl rfl hP hD hS [0, 2, 3, 4, 5] rfl rfl hl.1 rfl (Nat.le_of_ble_eq_true rfl) d_law_406 ⟨(Nat.le_of_ble_eq_true rfl), (Nat.le_of_ble_eq_true rfl)⟩ ⟨(Nat.le_of_ble_eq_true rfl), (Nat.le_of_ble_eq_true rfl)⟩) hP hD hS X.2.2.2.2.2.2.2.1 [0, 2, 3, 4, 5] [1, 6, 7, 8] rfl rfl rfl (by decide) (fun r w H locs hB hP hD hS => ?_)
      obtain ⟨rfl, rfl⟩ := hB
      have hP : va_P E.1 gk_cl [(q2, .inl (E.2.1 1, 3000, .inl (fun _ => 0))), (q24, .inr (10, [.int 0, .ref q25, .ref q26, .int 0, .ref q27, .ref q28, .ref q29, .ref q30, .ref q31, .ref q32, .ref q33, .ref q34, .ref q35, .ref q36, .ref q37, .ref q38, .ref q39, .ref q40, .ref q41, .int 0, .int 0, .int 0, .int 0, .ref q42, .ref q43, .ref q44, .ref q45, .int 0, .int 0, .ref q46, .ref q47, .int 0, .int 0, .int 0, .int 0, .int 0, .int 0, .int 0, .int 0, .ref q48, .int 0, .int 0, .int 0, .int 0, .ref q49, .ref q50, .ref q51, .ref q52, .ref q53, .ref q54, .ref q55, .ref q56, .int 0, .int 0, .ref q57, .ref q58, .ref q59, .int 0, .ref q60, .ref q61, .ref q62, .ref q63, .ref q64, .ref q65, .ref q66, .ref q67, .ref q68, .int 0, .ref q69, .ref q70, .ref q71, .ref q72, .ref q73, .int 0, .ref q74, .ref q75, .ref q76, .int 0, .int 0, .ref q77, .ref q78])), (q27, .inl (E.2.1 0, 13, .inl (fun _ => 0))), (q26, .inl (E.2.1 0, 3000, .inl (fun _ => 0)))] H := hP
      have hD : va_D A [(q2, .inl (E.2.1 1, 3000, .inl (fun _ => 0))), (q24, .inr (10, [.int 0, .ref q25, .ref q26, .int 0, .ref q27, .ref q28, .ref q29, .ref q30, .ref q31, .ref q32, .ref q33, .ref q34, .ref q35, .ref q36, .ref q37, .ref q38, .ref q39, .ref q40, .ref q41, .int 0, .int 0, .int 0, .int 0, .ref q42, .ref q43, .ref q44, .ref q45, .int 0, .int 0, .ref q46, .ref q47, .int 0, .int 0, .int 0, .int 0, .int 0, .int 0, .int 0, .int 0, .ref q48, .int 0, .int 0, .int 0, .int 0, .ref q49, .ref q50, .ref q51, .ref q52, .ref q53, .ref q54, .ref q55, .ref q56, .int 0, .int 0, .ref q57, .ref q58, .ref q59, .int 0, .ref q60, .ref q61, .ref q62, .ref q63, .ref q64, .ref q65, .ref q66, .ref q67, .ref q68, .int 0, .ref q69, .ref q70, .ref q71, .ref q72, .ref q73, .int 0, .ref q74, .ref q75, .ref q76, .int 0, .int 0, .ref q77, .ref q78])), (q27, .inl (E.2.1 0, 13, .inl (fun _ => 0))), (q26, .inl (E.2.1 0, 3000, .inl (fun _ => 0)))] := hD
      refine W.widen (k := 85) (n := 1318515) (by omega) (by omega) ?_
      refine W.eq (g2 := F0 m 409 ls [.int (gk_cnt s1)]) rfl ?_
      refine lv_aload_n hx hb d_law_409 rfl (lv_at hl 1 rfl) ?_
      refine lv_aload_n hx hb d_law_410 rfl (lv_at hl 3 rfl) ?_
      refine lv_iload_n hx hb d_law_411 rfl (lv_at hl 0 rfl) ?_
      refine lv_iconst (v := 1) hx hb d_law_412 (by decide) ?_
      refine lv_iadd hx hb d_law_413 ?_
      refine lv_topi (fun x182 ex182 => ?_)
      obtain rfl : x182 = (1 : Int32) := ex182.trans (by decide)
      refine va_sld hx hb hX hbl hbA hS (i := 1) (by unfold vp_in; decide) d_law_414 ?_
      refine W.eq (g2 := F0 m 415 ls [.int s1, .ref q24, .int (gk_cnt s1)]) (by rw [es1]; try rfl) ?_
      refine gk_back (wr := [(q2, .inl (E.2.1 1, 3000, .inl (fun _ => 0))), (q26, .inl (E.2.1 0, 3000, .inl (fun _ => 0)))]) (gk_runV (As := [.int s1]) (rest := [.int (gk_cnt s1)]) (ci := 10) (q0 := 1) X (c_Mo_count l E q24 q25 q26 q27 q28 q29 q30 q31 q32 q33 q34 q35 q36 q37 q38 q39 q40 q41 q42 q43 q44 q45 q46 q47 q48 q49 q50 q51 q52 q53 q54 q55 q56 q57 q58 q59 q60 q61 q62 q63 q64 q65 q66 q67 q68 q69 q70 q71 q72 q73 q74 q75 q76 q77 q78 s1 H.size) ok_Mo_count (Or.inl k_1871) k_1872 k_1873 rfl rfl rfl hP hD hS [1, 2] rfl rfl hl.1 rfl (Nat.le_of_ble_eq_true rfl) d_law_415 ⟨(Nat.le_of_ble_eq_true rfl), (Nat.le_of_ble_eq_true rfl)⟩ ⟨(Nat.le_of_ble_eq_true rfl), (Nat.le_of_ble_eq_true rfl)⟩) hP hD hS X.2.2.2.2.2.2.2.1 [1, 2] [0, 3] rfl rfl rfl (by decide) (fun r w H locs hB hP hD hS => ?_)
      obtain ⟨rfl, rfl⟩ := hB
      have hP : va_P E.1 gk_cl [(q2, .inl (E.2.1 1, 3000, .inl (fun _ => 0))), (q26, .inl (E.2.1 0, 3000, .inl (fun _ => 0)))] H := hP
      have hD : va_D A [(q2, .inl (E.2.1 1, 3000, .inl (fun _ => 0))), (q26, .inl (E.2.1 0, 3000, .inl (fun _ => 0)))] := hD
      refine W.widen (k := 85) (n := 1318515) (by omega) (by omega) ?_
      refine W.eq (g2 := F0 m 418 ls [.int (gk_cnt s1), .int (gk_cnt s1)]) rfl ?_
      refine lv_icmp_eq (tgt := 423) hx hb d_law_418 (by decide) (fun _ => ?_) (fun c9 => absurd rfl c9)
      refine lv_iinc (v := 4) (lv' := [(3, .int 4), (2, .ref q24), (1, .ref q1), (0, .ref b)]) hx hb d_law_423 hl (k := 0) rfl (by decide) (by decide) rfl (fun ls hl => ?_)
      refine lv_goto (tgt := 18) hx hb d_law_426 (by decide) ?_
      refine lv_iload_n hx hb d_law_18 rfl (lv_at hl 0 rfl) ?_
      refine lv_aload_n hx hb d_law_19 rfl (lv_at hl 3 rfl) ?_
      refine va_slen hx hb hX hbl hbA hS d_law_20 ?_
      refine lv_topi (fun x184 ex184 => ?_)
      obtain rfl : x184 = (4 : Int32) := ex184.trans (by decide)
      refine lv_iconst (v := 4) hx hb d_law_21 (by decide) ?_
      refine lv_isub hx hb d_law_22 ?_
      refine lv_topi (fun x185 ex185 => ?_)
      obtain rfl : x185 = (0 : Int32) := ex185.trans (by decide)
      refine lv_icmp_gt (tgt := 429) hx hb d_law_23 (by decide) (fun _ => ?_) (fun c9 => absurd (by decide) c9)
      refine lv_iconst (v := 1) hx hb d_law_429 (by decide) ?_
      refine va_forget (fun q hq => hAe _ (hS.2.2 q hq)) ?_
      refine W.widen (k := 60000) (n := 8922250) (Nat.le_of_ble_eq_true rfl) (Nat.le_of_ble_eq_true rfl) ?_
      exact lw_ret hx hb hr hlocks d_law_430
