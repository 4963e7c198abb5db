set_option maxHeartbeats 4000000 in
set_option maxRecDepth 100000 in
theorem c_Jt_isSign (l : Launch) (E : gk_E) (xi : Int32) (sz : Nat) : gk_M l E y_Jt_isSign b_Jt_isSign 1 (some .boolean) 0 0 0 [.int xi] [] sz (fun r w => ∃ x0 : Int32, r = some (.int x0) ∧ w = []) := by
  refine gk_met (by decide) (Nat.le_of_ble_eq_true rfl) ?_
  intro p e s m below meth c A ls X hl hP hD hS
  have hx := X.1
  have hb := X.2.1
  have hown := X.2.2.2.1
  have hts := X.2.2.2.2.1
  have hZ := X.2.2.2.2.2.2.1
  have hr := X.2.2.2.2.2.2.2.2.1
  have hlocks : meth.locks = false := X.2.2.2.2.2.2.2.2.2.1
  have hl : lv_has ls 1 [(0, .int xi)] := hl
  refine lv_iload_n hx hb d_Jt_isSign_0 rfl (lv_at hl 0 rfl) ?_
  refine lv_bipush (v := 10) hx hb d_Jt_isSign_1 (by decide) ?_
  refine lv_icmp_eq (tgt := 18) hx hb d_Jt_isSign_3 (by decide) (fun c1 => ?_) (fun c1 => ?_)
  · refine lv_iconst (v := 1) hx hb d_Jt_isSign_18 (by decide) ?_
    refine lv_goto (tgt := 23) hx hb d_Jt_isSign_19 (by decide) ?_
    have hP9 := hP.sub (ws' := []) [] rfl
    have hD9 := hD.sub (ws' := []) [] (by decide) rfl
    refine W.widen (k := 0) (n := 0) (Nat.le_of_ble_eq_true rfl) (Nat.le_of_ble_eq_true rfl) ?_
    exact W.zret hx hb hr (by decide) (gk_q hP9 hD9 hS ⟨1, rfl, rfl⟩) hS.2.2 d_Jt_isSign_23
  · refine lv_iload_n hx hb d_Jt_isSign_6 rfl (lv_at hl 0 rfl) ?_
    refine lv_bipush (v := 32) hx hb d_Jt_isSign_7 (by decide) ?_
    refine lv_icmp_lt (tgt := 22) hx hb d_Jt_isSign_9 (by decide) (fun c2 => ?_) (fun c2 => ?_)
    · refine lv_iconst (v := 0) hx hb d_Jt_isSign_22 (by decide) ?_
      have hP9 := hP.sub (ws' := []) [] rfl
      have hD9 := hD.sub (ws' := []) [] (by decide) rfl
      refine W.widen (k := 0) (n := 0) (Nat.le_of_ble_eq_true rfl) (Nat.le_of_ble_eq_true rfl) ?_
      exact W.zret hx hb hr (by decide) (gk_q hP9 hD9 hS ⟨0, rfl, rfl⟩) hS.2.2 d_Jt_isSign_23
    · refine lv_iload_n hx hb d_Jt_isSign_12 rfl (lv_at hl 0 rfl) ?_
      refine lv_bipush (v := 126) hx hb d_Jt_isSign_13 (by decide) ?_
      refine lv_icmp_gt (tgt := 22) hx hb d_Jt_isSign_15 (by decide) (fun c3 => ?_) (fun c3 => ?_)
      · refine lv_iconst (v := 0) hx hb d_Jt_isSign_22 (by decide) ?_
        have hP9 := hP.sub (ws' := []) [] rfl
        have hD9 := hD.sub (ws' := []) [] (by decide) rfl
        refine W.widen (k := 0) (n := 0) (Nat.le_of_ble_eq_true rfl) (Nat.le_of_ble_eq_true rfl) ?_
        exact W.zret hx hb hr (by decide) (gk_q hP9 hD9 hS ⟨0, rfl, rfl⟩) hS.2.2 d_Jt_isSign_23
      · refine lv_iconst (v := 1) hx hb d_Jt_isSign_18 (by decide) ?_
        refine lv_goto (tgt := 23) hx hb d_Jt_isSign_19 (by decide) ?_
        have hP9 := hP.sub (ws' := []) [] rfl
        have hD9 := hD.sub (ws' := []) [] (by decide) rfl
        refine W.widen (k := 0) (n := 0) (Nat.le_of_ble_eq_true rfl) (Nat.le_of_ble_eq_true rfl) ?_
        exact W.zret hx hb hr (by decide) (gk_q hP9 hD9 hS ⟨1, rfl, rfl⟩) hS.2.2 d_Jt_isSign_23

set_option maxHeartbeats 4000000 in
set_option maxRecDepth 100000 in
theorem l_Jt_sign_0 {p : Program} {e : Env} {s : State} {m : MethodId} {below : List Frame} {meth : Method} {c : Code} {A : Nat → Prop} (l : Launch) (E : gk_E) (h0 : Nat) (q1 : Nat) (q2 : Nat) (q7 : Nat) (q8 : Nat) (cc : Int64) (X : gk_X E p s m ([.ref h0, .long cc] : List Value).toArray meth c y_Jt_sign b_Jt_sign 5 (none) A) : ∀ (kk : Int32) (ff : Nat → Int32) (H : Heap) (locs : List Loc) (ls : Array Slot), ¬ kk < 0 → lv_has ls 5 [(3, .int (-8)), (0, .ref h0), (1, .long cc)] → va_P E.1 gk_cl [(h0, .inr (0, [.ref q1, .ref q2, .ref q7, .ref q8, .int kk, .null])), (q1, .inl (E.2.1 1, 3000, .inl ff))] H → va_D A [(h0, .inr (0, [.ref q1, .ref q2, .ref q7, .ref q8, .int kk, .null])), (q1, .inl (E.2.1 1, 3000, .inl ff))] → va_S A s.heap H locs → W p l e (gk_rm 1 0 0) s m ([.ref h0, .long cc] : List Value).toArray below meth c H locs 0 0 (MQ below (gk_Q E A (fun r w => r = none ∧ w = [])) ([.ref h0, .long cc] : List Value).toArray s 0 0 A) (F0 m 3 ls []) := by
  intro kk ff H locs ls hk hl hP hD hS
  have hx := X.1
  have hb := X.2.1
  have hown := X.2.2.2.1
  have hts := X.2.2.2.2.1
  have hr := X.2.2.2.2.2.2.2.2.1
  have hlocks : meth.locks = false := X.2.2.2.2.2.2.2.2.2.1
  refine lv_iload_n hx hb d_Jt_sign_3 rfl (lv_at hl 0 rfl) ?_
  refine lv_if_lt (tgt := 65) hx hb d_Jt_sign_4 (by decide) (fun _ => ?_) (fun c9 => absurd (by decide) c9)
  have hP9 := hP.sub (ws' := []) [] rfl
  have hD9 := hD.sub (ws' := []) [] (by decide) rfl
  refine W.widen (k := 0) (n := 0) (Nat.le_of_ble_eq_true rfl) (Nat.le_of_ble_eq_true rfl) ?_
  exact W.vret hx hb hr (gk_q hP9 hD9 hS ⟨rfl, rfl⟩) hS.2.2 d_Jt_sign_65

set_option maxHeartbeats 4000000 in
set_option maxRecDepth 100000 in
theorem l_Jt_sign_1 {p : Program} {e : Env} {s : State} {m : MethodId} {below : List Frame} {meth : Method} {c : Code} {A : Nat → Prop} (l : Launch) (E : gk_E) (h0 : Nat) (q1 : Nat) (q2 : Nat) (q7 : Nat) (q8 : Nat) (cc : Int64) (X : gk_X E p s m ([.ref h0, .long cc] : List Value).toArray meth c y_Jt_sign b_Jt_sign 5 (none) A) : ∀ (kk : Int32) (ff : Nat → Int32) (H : Heap) (locs : List Loc) (ls : Array Slot), ¬ kk < 0 → lv_has ls 5 [(3, .int 0), (0, .ref h0), (1, .long cc)] → va_P E.1 gk_cl [(h0, .inr (0, [.ref q1, .ref q2, .ref q7, .ref q8, .int kk, .null])), (q1, .inl (E.2.1 1, 3000, .inl ff))] H → va_D A [(h0, .inr (0, [.ref q1, .ref q2, .ref q7, .ref q8, .int kk, .null])), (q1, .inl (E.2.1 1, 3000, .inl ff))] → va_S A s.heap H locs → W p l e (gk_rm 1 0 0) s m ([.ref h0, .long cc] : List Value).toArray below meth c H locs 0 0 (MQ below (gk_Q E A (fun r w => r = none ∧ w = [])) ([.ref h0, .long cc] : List Value).toArray s 0 0 A) (F0 m 3 ls []) := by
  intro kk ff H locs ls hk hl hP hD hS
  have hx := X.1
  have hb := X.2.1
  have hown := X.2.2.2.1
  have hts := X.2.2.2.2.1
  have hr := X.2.2.2.2.2.2.2.2.1
  have hlocks : meth.locks = false := X.2.2.2.2.2.2.2.2.2.1
  refine lv_iload_n hx hb d_Jt_sign_3 rfl (lv_at hl 0 rfl) ?_
  refine lv_if_lt (tgt := 65) hx hb d_Jt_sign_4 (by decide) (fun c9 => absurd c9 (by decide)) (fun _ => ?_)
  refine lv_lload_n hx hb d_Jt_sign_7 rfl (lv_at hl 2 rfl) ?_
  refine lv_iload_n hx hb d_Jt_sign_8 rfl (lv_at hl 0 rfl) ?_
  refine lv_lushr hx hb d_Jt_sign_9 rfl ?_
  refine lv_topl (fun x101 ex101 => ?_)
  refine lv_l2i hx hb d_Jt_sign_10 rfl ?_
  refine lv_topi (fun x102 ex102 => ?_)
  refine lv_sipush (v := 255) hx hb d_Jt_sign_11 (by decide) ?_
  refine lv_iand hx hb d_Jt_sign_14 ?_
  refine lv_topi (fun x103 ex103 => ?_)
  refine lv_istore (lv' := [(4, .int x103), (3, .int 0), (0, .ref h0), (1, .long cc)]) hx hb d_Jt_sign_15 hl (by decide) rfl (fun ls hl => ?_)
  refine lv_iload hx hb d_Jt_sign_17 (lv_at hl 0 rfl) ?_
  refine gk_back (wr := [(h0, .inr (0, [.ref q1, .ref q2, .ref q7, .ref q8, .int kk, .null])), (q1, .inl (E.2.1 1, 3000, .inl ff))]) (gk_runS (As := [.int x103]) (rest := []) X (c_Jt_isSign l E x103 H.size) ok_Jt_isSign (Or.inl k_325) k_326 rfl hP hD hS [] rfl rfl hl.1 rfl (Nat.le_of_ble_eq_true rfl) d_Jt_sign_19 ⟨(Nat.le_of_ble_eq_true rfl), (Nat.le_of_ble_eq_true rfl)⟩ ⟨(Nat.le_of_ble_eq_true rfl), (Nat.le_of_ble_eq_true rfl)⟩) hP hD hS X.2.2.2.2.2.2.2.1 [] [0, 1] rfl rfl rfl (by decide) (fun r w H locs hB hP hD hS => ?_)
  obtain ⟨x104, rfl, rfl⟩ := hB
  have hP : va_P E.1 gk_cl [(h0, .inr (0, [.ref q1, .ref q2, .ref q7, .ref q8, .int kk, .null])), (q1, .inl (E.2.1 1, 3000, .inl ff))] H := hP
  have hD : va_D A [(h0, .inr (0, [.ref q1, .ref q2, .ref q7, .ref q8, .int kk, .null])), (q1, .inl (E.2.1 1, 3000, .inl ff))] := hD
  refine W.widen (k := 0) (n := 0) (by omega) (by omega) ?_
  refine W.eq (g2 := F0 m 22 ls [.int x104]) rfl ?_
  refine lv_if_eq (tgt := 59) hx hb d_Jt_sign_22 (by decide) (fun c105 => ?_) (fun c105 => ?_)
  · refine lv_iinc (v := (-8)) (lv' := [(3, .int (-8)), (4, .int x103), (0, .ref h0), (1, .long cc)]) hx hb d_Jt_sign_59 hl (k := 1) rfl (by decide) (by decide) rfl (fun ls hl => ?_)
    refine lv_goto (tgt := 3) hx hb d_Jt_sign_62 (by decide) ?_
    exact l_Jt_sign_0 l E h0 q1 q2 q7 q8 cc X kk ff _ _ _ hk (lv_sub hl [0, 2, 3] rfl) hP hD hS
  · refine lv_aload_n hx hb d_Jt_sign_25 rfl (lv_at hl 2 rfl) ?_
    refine gk_get (b := h0) (ci := 0) (v := .int kk) X in_Jt hP 0 rfl rfl 4 (by decide) k_306 rfl d_Jt_sign_26 ?_
    refine lv_aload_n hx hb d_Jt_sign_29 rfl (lv_at hl 2 rfl) ?_
    refine gk_get (b := h0) (ci := 0) (v := .ref q1) X in_Jt hP 0 rfl rfl 0 (by decide) k_302 rfl d_Jt_sign_30 ?_
    refine va_alen (v := 3000) hx hb X.2.2.2.2.2.1.1 hP 1 1 rfl rfl rfl d_Jt_sign_33 ?_
    refine lv_icmp_ge (tgt := 59) hx hb d_Jt_sign_34 (by decide) (fun c106 => ?_) (fun c106 => ?_)
    · refine lv_iinc (v := (-8)) (lv' := [(3, .int (-8)), (4, .int x103), (0, .ref h0), (1, .long cc)]) hx hb d_Jt_sign_59 hl (k := 1) rfl (by decide) (by decide) rfl (fun ls hl => ?_)
      refine lv_goto (tgt := 3) hx hb d_Jt_sign_62 (by decide) ?_
      exact l_Jt_sign_0 l E h0 q1 q2 q7 q8 cc X kk ff _ _ _ hk (lv_sub hl [0, 2, 3] rfl) hP hD hS
    · refine lv_aload_n hx hb d_Jt_sign_37 rfl (lv_at hl 2 rfl) ?_
      refine gk_get (b := h0) (ci := 0) (v := .ref q1) X in_Jt hP 0 rfl rfl 0 (by decide) k_302 rfl d_Jt_sign_38 ?_
      refine lv_aload_n hx hb d_Jt_sign_41 rfl (lv_at hl 2 rfl) ?_
      refine gk_get (b := h0) (ci := 0) (v := .int kk) X in_Jt hP 0 rfl rfl 4 (by decide) k_306 rfl d_Jt_sign_42 ?_
      refine lv_iload hx hb d_Jt_sign_45 (lv_at hl 0 rfl) ?_
      refine lv_i2b hx hb d_Jt_sign_47 rfl ?_
      refine lv_topi (fun x107 ex107 => ?_)
      refine va_bast hx hb X.2.2.2.2.2.1.1 hP hD hS 1 1 rfl rfl (i := kk) (gk_k0 hk c106) d_Jt_sign_48 (fun H locs hP hD hS => ?_)
      obtain ⟨f108, ef108⟩ : ∃ g, g = upd ff (Int32.toNatClampNeg kk) (vp_nar .byte x107) := ⟨_, rfl⟩
      rw [← ef108] at hP hD
      have hP : va_P E.1 gk_cl [(h0, .inr (0, [.ref q1, .ref q2, .ref q7, .ref q8, .int kk, .null])), (q1, .inl (E.2.1 1, 3000, .inl f108))] H := hP
      have hD : va_D A [(h0, .inr (0, [.ref q1, .ref q2, .ref q7, .ref q8, .int kk, .null])), (q1, .inl (E.2.1 1, 3000, .inl f108))] := hD
      refine lv_aload_n hx hb d_Jt_sign_49 rfl (lv_at hl 2 rfl) ?_
      refine lv_dup hx hb d_Jt_sign_50 rfl ?_
      refine gk_get (b := h0) (ci := 0) (v := .int kk) X in_Jt hP 0 rfl rfl 4 (by decide) k_306 rfl d_Jt_sign_51 ?_
      refine lv_iconst (v := 1) hx hb d_Jt_sign_54 (by decide) ?_
      refine lv_iadd hx hb d_Jt_sign_55 ?_
      refine lv_topi (fun x109 ex109 => ?_)
      refine gk_put (b := h0) (ci := 0) (v := .int x109) (ty := t_Jt 4) (ws' := [(h0, .inr (0, [.ref q1, .ref q2, .ref q7, .ref q8, .int x109, .null])), (q1, .inl (E.2.1 1, 3000, .inl f108))]) X in_Jt t_Jt t_Jt_ok n_Jt hP hD hS 0 rfl rfl 4 (by decide) k_306 (Or.inl rfl) (t_Jt_ok 4 (by decide)) rfl rfl (Nat.le_of_ble_eq_true rfl) d_Jt_sign_56 rfl (fun H locs hP hD hS => ?_)
      refine lv_iinc (v := (-8)) (lv' := [(3, .int (-8)), (4, .int x103), (0, .ref h0), (1, .long cc)]) hx hb d_Jt_sign_59 hl (k := 1) rfl (by decide) (by decide) rfl (fun ls hl => ?_)
      refine lv_goto (tgt := 3) hx hb d_Jt_sign_62 (by decide) ?_
      exact l_Jt_sign_0 l E h0 q1 q2 q7 q8 cc X x109 f108 _ _ _ (by rw [ex109]; exact gk_k2 hk c106) (lv_sub hl [0, 2, 3] rfl) hP hD hS

set_option maxHeartbeats 4000000 in
set_option maxRecDepth 100000 in
theorem l_Jt_sign_2 {p : Program} {e : Env} {s : State} {m : MethodId} {below : List Frame} {meth : Method} {c : Code} {A : Nat → Prop} (l : Launch) (E : gk_E) (h0 : Nat) (q1 : Nat) (q2 : Nat) (q7 : Nat) (q8 : Nat) (cc : Int64) (X : gk_X E p s m ([.ref h0, .long cc] : List Value).toArray meth c y_Jt_sign b_Jt_sign 5 (none) A) : ∀ (kk : Int32) (ff : Nat → Int32) (H : Heap) (locs : List Loc) (ls : Array Slot), ¬ kk < 0 → lv_has ls 5 [(3, .int 8), (0, .ref h0), (1, .long cc)] → va_P E.1 gk_cl [(h0, .inr (0, [.ref q1, .ref q2, .ref q7, .ref q8, .int kk, .null])), (q1, .inl (E.2.1 1, 3000, .inl ff))] H → va_D A [(h0, .inr (0, [.ref q1, .ref q2, .ref q7, .ref q8, .int kk, .null])), (q1, .inl (E.2.1 1, 3000, .inl ff))] → va_S A s.heap H locs → W p l e (gk_rm 1 0 0) s m ([.ref h0, .long cc] : List Value).toArray below meth c H locs 0 0 (MQ below (gk_Q E A (fun r w => r = none ∧ w = [])) ([.ref h0, .long cc] : List Value).toArray s 0 0 A) (F0 m 3 ls []) := by
  intro kk ff H locs ls hk hl hP hD hS
  have hx := X.1
  have hb := X.2.1
  have hown := X.2.2.2.1
  have hts := X.2.2.2.2.1
  have hr := X.2.2.2.2.2.2.2.2.1
  have hlocks : meth.locks = false := X.2.2.2.2.2.2.2.2.2.1
  refine lv_iload_n hx hb d_Jt_sign_3 rfl (lv_at hl 0 rfl) ?_
  refine lv_if_lt (tgt := 65) hx hb d_Jt_sign_4 (by decide) (fun c9 => absurd c9 (by decide)) (fun _ => ?_)
  refine lv_lload_n hx hb d_Jt_sign_7 rfl (lv_at hl 2 rfl) ?_
  refine lv_iload_n hx hb d_Jt_sign_8 rfl (lv_at hl 0 rfl) ?_
  refine lv_lushr hx hb d_Jt_sign_9 rfl ?_
  refine lv_topl (fun x101 ex101 => ?_)
  refine lv_l2i hx hb d_Jt_sign_10 rfl ?_
  refine lv_topi (fun x102 ex102 => ?_)
  refine lv_sipush (v := 255) hx hb d_Jt_sign_11 (by decide) ?_
  refine lv_iand hx hb d_Jt_sign_14 ?_
  refine lv_topi (fun x103 ex103 => ?_)
  refine lv_istore (lv' := [(4, .int x103), (3, .int 8), (0, .ref h0), (1, .long cc)]) hx hb d_Jt_sign_15 hl (by decide) rfl (fun ls hl => ?_)
  refine lv_iload hx hb d_Jt_sign_17 (lv_at hl 0 rfl) ?_
  refine gk_back (wr := [(h0, .inr (0, [.ref q1, .ref q2, .ref q7, .ref q8, .int kk, .null])), (q1, .inl (E.2.1 1, 3000, .inl ff))]) (gk_runS (As := [.int x103]) (rest := []) X (c_Jt_isSign l E x103 H.size) ok_Jt_isSign (Or.inl k_325) k_326 rfl hP hD hS [] rfl rfl hl.1 rfl (Nat.le_of_ble_eq_true rfl) d_Jt_sign_19 ⟨(Nat.le_of_ble_eq_true rfl), (Nat.le_of_ble_eq_true rfl)⟩ ⟨(Nat.le_of_ble_eq_true rfl), (Nat.le_of_ble_eq_true rfl)⟩) hP hD hS X.2.2.2.2.2.2.2.1 [] [0, 1] rfl rfl rfl (by decide) (fun r w H locs hB hP hD hS => ?_)
  obtain ⟨x104, rfl, rfl⟩ := hB
  have hP : va_P E.1 gk_cl [(h0, .inr (0, [.ref q1, .ref q2, .ref q7, .ref q8, .int kk, .null])), (q1, .inl (E.2.1 1, 3000, .inl ff))] H := hP
  have hD : va_D A [(h0, .inr (0, [.ref q1, .ref q2, .ref q7, .ref q8, .int kk, .null])), (q1, .inl (E.2.1 1, 3000, .inl ff))] := hD
  refine W.widen (k := 0) (n := 0) (by omega) (by omega) ?_
  refine W.eq (g2 := F0 m 22 ls [.int x104]) rfl ?_
  refine lv_if_eq (tgt := 59) hx hb d_Jt_sign_22 (by decide) (fun c105 => ?_) (fun c105 => ?_)
  · refine lv_iinc (v := 0) (lv' := [(3, .int 0), (4, .int x103), (0, .ref h0), (1, .long cc)]) hx hb d_Jt_sign_59 hl (k := 1) rfl (by decide) (by decide) rfl (fun ls hl => ?_)
    refine lv_goto (tgt := 3) hx hb d_Jt_sign_62 (by decide) ?_
    exact l_Jt_sign_1 l E h0 q1 q2 q7 q8 cc X kk ff _ _ _ hk (lv_sub hl [0, 2, 3] rfl) hP hD hS
  · refine lv_aload_n hx hb d_Jt_sign_25 rfl (lv_at hl 2 rfl) ?_
    refine gk_get (b := h0) (ci := 0) (v := .int kk) X in_Jt hP 0 rfl rfl 4 (by decide) k_306 rfl d_Jt_sign_26 ?_
    refine lv_aload_n hx hb d_Jt_sign_29 rfl (lv_at hl 2 rfl) ?_
    refine gk_get (b := h0) (ci := 0) (v := .ref q1) X in_Jt hP 0 rfl rfl 0 (by decide) k_302 rfl d_Jt_sign_30 ?_
    refine va_alen (v := 3000) hx hb X.2.2.2.2.2.1.1 hP 1 1 rfl rfl rfl d_Jt_sign_33 ?_
    refine lv_icmp_ge (tgt := 59) hx hb d_Jt_sign_34 (by decide) (fun c106 => ?_) (fun c106 => ?_)
    · refine lv_iinc (v := 0) (lv' := [(3, .int 0), (4, .int x103), (0, .ref h0), (1, .long cc)]) hx hb d_Jt_sign_59 hl (k := 1) rfl (by decide) (by decide) rfl (fun ls hl => ?_)
      refine lv_goto (tgt := 3) hx hb d_Jt_sign_62 (by decide) ?_
      exact l_Jt_sign_1 l E h0 q1 q2 q7 q8 cc X kk ff _ _ _ hk (lv_sub hl [0, 2, 3] rfl) hP hD hS
    · refine lv_aload_n hx hb d_Jt_sign_37 rfl (lv_at hl 2 rfl) ?_
      refine gk_get (b := h0) (ci := 0) (v := .ref q1) X in_Jt hP 0 rfl rfl 0 (by decide) k_302 rfl d_Jt_sign_38 ?_
      refine lv_aload_n hx hb d_Jt_sign_41 rfl (lv_at hl 2 rfl) ?_
      refine gk_get (b := h0) (ci := 0) (v := .int kk) X in_Jt hP 0 rfl rfl 4 (by decide) k_306 rfl d_Jt_sign_42 ?_
      refine lv_iload hx hb d_Jt_sign_45 (lv_at hl 0 rfl) ?_
      refine lv_i2b hx hb d_Jt_sign_47 rfl ?_
      refine lv_topi (fun x107 ex107 => ?_)
      refine va_bast hx hb X.2.2.2.2.2.1.1 hP hD hS 1 1 rfl rfl (i := kk) (gk_k0 hk c106) d_Jt_sign_48 (fun H locs hP hD hS => ?_)
      obtain ⟨f108, ef108⟩ : ∃ g, g = upd ff (Int32.toNatClampNeg kk) (vp_nar .byte x107) := ⟨_, rfl⟩
      rw [← ef108] at hP hD
      have hP : va_P E.1 gk_cl [(h0, .inr (0, [.ref q1, .ref q2, .ref q7, .ref q8, .int kk, .null])), (q1, .inl (E.2.1 1, 3000, .inl f108))] H := hP
      have hD : va_D A [(h0, .inr (0, [.ref q1, .ref q2, .ref q7, .ref q8, .int kk, .null])), (q1, .inl (E.2.1 1, 3000, .inl f108))] := hD
      refine lv_aload_n hx hb d_Jt_sign_49 rfl (lv_at hl 2 rfl) ?_
      refine lv_dup hx hb d_Jt_sign_50 rfl ?_
      refine gk_get (b := h0) (ci := 0) (v := .int kk) X in_Jt hP 0 rfl rfl 4 (by decide) k_306 rfl d_Jt_sign_51 ?_
      refine lv_iconst (v := 1) hx hb d_Jt_sign_54 (by decide) ?_
      refine lv_iadd hx hb d_Jt_sign_55 ?_
      refine lv_topi (fun x109 ex109 => ?_)
      refine gk_put (b := h0) (ci := 0) (v := .int x109) (ty := t_Jt 4) (ws' := [(h0, .inr (0, [.ref q1, .ref q2, .ref q7, .ref q8, .int x109, .null])), (q1, .inl (E.2.1 1, 3000, .inl f108))]) X in_Jt t_Jt t_Jt_ok n_Jt hP hD hS 0 rfl rfl 4 (by decide) k_306 (Or.inl rfl) (t_Jt_ok 4 (by decide)) rfl rfl (Nat.le_of_ble_eq_true rfl) d_Jt_sign_56 rfl (fun H locs hP hD hS => ?_)
      refine lv_iinc (v := 0) (lv' := [(3, .int 0), (4, .int x103), (0, .ref h0), (1, .long cc)]) hx hb d_Jt_sign_59 hl (k := 1) rfl (by decide) (by decide) rfl (fun ls hl => ?_)
      refine lv_goto (tgt := 3) hx hb d_Jt_sign_62 (by decide) ?_
      exact l_Jt_sign_1 l E h0 q1 q2 q7 q8 cc X x109 f108 _ _ _ (by rw [ex109]; exact gk_k2 hk c106) (lv_sub hl [0, 2, 3] rfl) hP hD hS

set_option maxHeartbeats 4000000 in
set_option maxRecDepth 100000 in
theorem l_Jt_sign_3 {p : Program} {e : Env} {s : State} {m : MethodId} {below : List Frame} {meth : Method} {c : Code} {A : Nat → Prop} (l : Launch) (E : gk_E) (h0 : Nat) (q1 : Nat) (q2 : Nat) (q7 : Nat) (q8 : Nat) (cc : Int64) (X : gk_X E p s m ([.ref h0, .long cc] : List Value).toArray meth c y_Jt_sign b_Jt_sign 5 (none) A) : ∀ (kk : Int32) (ff : Nat → Int32) (H : Heap) (locs : List Loc) (ls : Array Slot), ¬ kk < 0 → lv_has ls 5 [(3, .int 16), (0, .ref h0), (1, .long cc)] → va_P E.1 gk_cl [(h0, .inr (0, [.ref q1, .ref q2, .ref q7, .ref q8, .int kk, .null])), (q1, .inl (E.2.1 1, 3000, .inl ff))] H → va_D A [(h0, .inr (0, [.ref q1, .ref q2, .ref q7, .ref q8, .int kk, .null])), (q1, .inl (E.2.1 1, 3000, .inl ff))] → va_S A s.heap H locs → W p l e (gk_rm 1 0 0) s m ([.ref h0, .long cc] : List Value).toArray below meth c H locs 0 0 (MQ below (gk_Q E A (fun r w => r = none ∧ w = [])) ([.ref h0, .long cc] : List Value).toArray s 0 0 A) (F0 m 3 ls []) := by
  intro kk ff H locs ls hk hl hP hD hS
  have hx := X.1
  have hb := X.2.1
  have hown := X.2.2.2.1
  have hts := X.2.2.2.2.1
  have hr := X.2.2.2.2.2.2.2.2.1
  have hlocks : meth.locks = false := X.2.2.2.2.2.2.2.2.2.1
  refine lv_iload_n hx hb d_Jt_sign_3 rfl (lv_at hl 0 rfl) ?_
  refine lv_if_lt (tgt := 65) hx hb d_Jt_sign_4 (by decide) (fun c9 => absurd c9 (by decide)) (fun _ => ?_)
  refine lv_lload_n hx hb d_Jt_sign_7 rfl (lv_at hl 2 rfl) ?_
  refine lv_iload_n hx hb d_Jt_sign_8 rfl (lv_at hl 0 rfl) ?_
  refine lv_lushr hx hb d_Jt_sign_9 rfl ?_
  refine lv_topl (fun x101 ex101 => ?_)
  refine lv_l2i hx hb d_Jt_sign_10 rfl ?_
  refine lv_topi (fun x102 ex102 => ?_)
  refine lv_sipush (v := 255) hx hb d_Jt_sign_11 (by decide) ?_
  refine lv_iand hx hb d_Jt_sign_14 ?_
  refine lv_topi (fun x103 ex103 => ?_)
  refine lv_istore (lv' := [(4, .int x103), (3, .int 16), (0, .ref h0), (1, .long cc)]) hx hb d_Jt_sign_15 hl (by decide) rfl (fun ls hl => ?_)
  refine lv_iload hx hb d_Jt_sign_17 (lv_at hl 0 rfl) ?_
  refine gk_back (wr := [(h0, .inr (0, [.ref q1, .ref q2, .ref q7, .ref q8, .int kk, .null])), (q1, .inl (E.2.1 1, 3000, .inl ff))]) (gk_runS (As := [.int x103]) (rest := []) X (c_Jt_isSign l E x103 H.size) ok_Jt_isSign (Or.inl k_325) k_326 rfl hP hD hS [] rfl rfl hl.1 rfl (Nat.le_of_ble_eq_true rfl) d_Jt_sign_19 ⟨(Nat.le_of_ble_eq_true rfl), (Nat.le_of_ble_eq_true rfl)⟩ ⟨(Nat.le_of_ble_eq_true rfl), (Nat.le_of_ble_eq_true rfl)⟩) hP hD hS X.2.2.2.2.2.2.2.1 [] [0, 1] rfl rfl rfl (by decide) (fun r w H locs hB hP hD hS => ?_)
  obtain ⟨x104, rfl, rfl⟩ := hB
  have hP : va_P E.1 gk_cl [(h0, .inr (0, [.ref q1, .ref q2, .ref q7, .ref q8, .int kk, .null])), (q1, .inl (E.2.1 1, 3000, .inl ff))] H := hP
  have hD : va_D A [(h0, .inr (0, [.ref q1, .ref q2, .ref q7, .ref q8, .int kk, .null])), (q1, .inl (E.2.1 1, 3000, .inl ff))] := hD
  refine W.widen (k := 0) (n := 0) (by omega) (by omega) ?_
  refine W.eq (g2 := F0 m 22 ls [.int x104]) rfl ?_
  refine lv_if_eq (tgt := 59) hx hb d_Jt_sign_22 (by decide) (fun c105 => ?_) (fun c105 => ?_)
  · refine lv_iinc (v := 8) (lv' := [(3, .int 8), (4, .int x103), (0, .ref h0), (1, .long cc)]) hx hb d_Jt_sign_59 hl (k := 1) rfl (by decide) (by decide) rfl (fun ls hl => ?_)
    refine lv_goto (tgt := 3) hx hb d_Jt_sign_62 (by decide) ?_
    exact l_Jt_sign_2 l E h0 q1 q2 q7 q8 cc X kk ff _ _ _ hk (lv_sub hl [0, 2, 3] rfl) hP hD hS
  · refine lv_aload_n hx hb d_Jt_sign_25 rfl (lv_at hl 2 rfl) ?_
    refine gk_get (b := h0) (ci := 0) (v := .int kk) X in_Jt hP 0 rfl rfl 4 (by decide) k_306 rfl d_Jt_sign_26 ?_
    refine lv_aload_n hx hb d_Jt_sign_29 rfl (lv_at hl 2 rfl) ?_
    refine gk_get (b := h0) (ci := 0) (v := .ref q1) X in_Jt hP 0 rfl rfl 0 (by decide) k_302 rfl d_Jt_sign_30 ?_
    refine va_alen (v := 3000) hx hb X.2.2.2.2.2.1.1 hP 1 1 rfl rfl rfl d_Jt_sign_33 ?_
    refine lv_icmp_ge (tgt := 59) hx hb d_Jt_sign_34 (by decide) (fun c106 => ?_) (fun c106 => ?_)
    · refine lv_iinc (v := 8) (lv' := [(3, .int 8), (4, .int x103), (0, .ref h0), (1, .long cc)]) hx hb d_Jt_sign_59 hl (k := 1) rfl (by decide) (by decide) rfl (fun ls hl => ?_)
      refine lv_goto (tgt := 3) hx hb d_Jt_sign_62 (by decide) ?_
      exact l_Jt_sign_2 l E h0 q1 q2 q7 q8 cc X kk ff _ _ _ hk (lv_sub hl [0, 2, 3] rfl) hP hD hS
    · refine lv_aload_n hx hb d_Jt_sign_37 rfl (lv_at hl 2 rfl) ?_
      refine gk_get (b := h0) (ci := 0) (v := .ref q1) X in_Jt hP 0 rfl rfl 0 (by decide) k_302 rfl d_Jt_sign_38 ?_
      refine lv_aload_n hx hb d_Jt_sign_41 rfl (lv_at hl 2 rfl) ?_
      refine gk_get (b := h0) (ci := 0) (v := .int kk) X in_Jt hP 0 rfl rfl 4 (by decide) k_306 rfl d_Jt_sign_42 ?_
      refine lv_iload hx hb d_Jt_sign_45 (lv_at hl 0 rfl) ?_
      refine lv_i2b hx hb d_Jt_sign_47 rfl ?_
      refine lv_topi (fun x107 ex107 => ?_)
      refine va_bast hx hb X.2.2.2.2.2.1.1 hP hD hS 1 1 rfl rfl (i := kk) (gk_k0 hk c106) d_Jt_sign_48 (fun H locs hP hD hS => ?_)
      obtain ⟨f108, ef108⟩ : ∃ g, g = upd ff (Int32.toNatClampNeg kk) (vp_nar .byte x107) := ⟨_, rfl⟩
      rw [← ef108] at hP hD
      have hP : va_P E.1 gk_cl [(h0, .inr (0, [.ref q1, .ref q2, .ref q7, .ref q8, .int kk, .null])), (q1, .inl (E.2.1 1, 3000, .inl f108))] H := hP
      have hD : va_D A [(h0, .inr (0, [.ref q1, .ref q2, .ref q7, .ref q8, .int kk, .null])), (q1, .inl (E.2.1 1, 3000, .inl f108))] := hD
      refine lv_aload_n hx hb d_Jt_sign_49 rfl (lv_at hl 2 rfl) ?_
      refine lv_dup hx hb d_Jt_sign_50 rfl ?_
      refine gk_get (b := h0) (ci := 0) (v := .int kk) X in_Jt hP 0 rfl rfl 4 (by decide) k_306 rfl d_Jt_sign_51 ?_
      refine lv_iconst (v := 1) hx hb d_Jt_sign_54 (by decide) ?_
      refine lv_iadd hx hb d_Jt_sign_55 ?_
      refine lv_topi (fun x109 ex109 => ?_)
      refine gk_put (b := h0) (ci := 0) (v := .int x109) (ty := t_Jt 4) (ws' := [(h0, .inr (0, [.ref q1, .ref q2, .ref q7, .ref q8, .int x109, .null])), (q1, .inl (E.2.1 1, 3000, .inl f108))]) X in_Jt t_Jt t_Jt_ok n_Jt hP hD hS 0 rfl rfl 4 (by decide) k_306 (Or.inl rfl) (t_Jt_ok 4 (by decide)) rfl rfl (Nat.le_of_ble_eq_true rfl) d_Jt_sign_56 rfl (fun H locs hP hD hS => ?_)
      refine lv_iinc (v := 8) (lv' := [(3, .int 8), (4, .int x103), (0, .ref h0), (1, .long cc)]) hx hb d_Jt_sign_59 hl (k := 1) rfl (by decide) (by decide) rfl (fun ls hl => ?_)
      refine lv_goto (tgt := 3) hx hb d_Jt_sign_62 (by decide) ?_
      exact l_Jt_sign_2 l E h0 q1 q2 q7 q8 cc X x109 f108 _ _ _ (by rw [ex109]; exact gk_k2 hk c106) (lv_sub hl [0, 2, 3] rfl) hP hD hS

set_option maxHeartbeats 4000000 in
set_option maxRecDepth 100000 in
theorem l_Jt_sign_4 {p : Program} {e : Env} {s : State} {m : MethodId} {below : List Frame} {meth : Method} {c : Code} {A : Nat → Prop} (l : Launch) (E : gk_E) (h0 : Nat) (q1 : Nat) (q2 : Nat) (q7 : Nat) (q8 : Nat) (cc : Int64) (X : gk_X E p s m ([.ref h0, .long cc] : List Value).toArray meth c y_Jt_sign b_Jt_sign 5 (none) A) : ∀ (kk : Int32) (ff : Nat → Int32) (H : Heap) (locs : List Loc) (ls : Array Slot), ¬ kk < 0 → lv_has ls 5 [(3, .int 24), (0, .ref h0), (1, .long cc)] → va_P E.1 gk_cl [(h0, .inr (0, [.ref q1, .ref q2, .ref q7, .ref q8, .int kk, .null])), (q1, .inl (E.2.1 1, 3000, .inl ff))] H → va_D A [(h0, .inr (0, [.ref q1, .ref q2, .ref q7, .ref q8, .int kk, .null])), (q1, .inl (E.2.1 1, 3000, .inl ff))] → va_S A s.heap H locs → W p l e (gk_rm 1 0 0) s m ([.ref h0, .long cc] : List Value).toArray below meth c H locs 0 0 (MQ below (gk_Q E A (fun r w => r = none ∧ w = [])) ([.ref h0, .long cc] : List Value).toArray s 0 0 A) (F0 m 3 ls []) := by
  intro kk ff H locs ls hk hl hP hD hS
  have hx := X.1
  have hb := X.2.1
  have hown := X.2.2.2.1
  have hts := X.2.2.2.2.1
  have hr := X.2.2.2.2.2.2.2.2.1
  have hlocks : meth.locks = false := X.2.2.2.2.2.2.2.2.2.1
  refine lv_iload_n hx hb d_Jt_sign_3 rfl (lv_at hl 0 rfl) ?_
  refine lv_if_lt (tgt := 65) hx hb d_Jt_sign_4 (by decide) (fun c9 => absurd c9 (by decide)) (fun _ => ?_)
  refine lv_lload_n hx hb d_Jt_sign_7 rfl (lv_at hl 2 rfl) ?_
  refine lv_iload_n hx hb d_Jt_sign_8 rfl (lv_at hl 0 rfl) ?_
  refine lv_lushr hx hb d_Jt_sign_9 rfl ?_
  refine lv_topl (fun x101 ex101 => ?_)
  refine lv_l2i hx hb d_Jt_sign_10 rfl ?_
  refine lv_topi (fun x102 ex102 => ?_)
  refine lv_sipush (v := 255) hx hb d_Jt_sign_11 (by decide) ?_
  refine lv_iand hx hb d_Jt_sign_14 ?_
  refine lv_topi (fun x103 ex103 => ?_)
  refine lv_istore (lv' := [(4, .int x103), (3, .int 24), (0, .ref h0), (1, .long cc)]) hx hb d_Jt_sign_15 hl (by decide) rfl (fun ls hl => ?_)
  refine lv_iload hx hb d_Jt_sign_17 (lv_at hl 0 rfl) ?_
  refine gk_back (wr := [(h0, .inr (0, [.ref q1, .ref q2, .ref q7, .ref q8, .int kk, .null])), (q1, .inl (E.2.1 1, 3000, .inl ff))]) (gk_runS (As := [.int x103]) (rest := []) X (c_Jt_isSign l E x103 H.size) ok_Jt_isSign (Or.inl k_325) k_326 rfl hP hD hS [] rfl rfl hl.1 rfl (Nat.le_of_ble_eq_true rfl) d_Jt_sign_19 ⟨(Nat.le_of_ble_eq_true rfl), (Nat.le_of_ble_eq_true rfl)⟩ ⟨(Nat.le_of_ble_eq_true rfl), (Nat.le_of_ble_eq_true rfl)⟩) hP hD hS X.2.2.2.2.2.2.2.1 [] [0, 1] rfl rfl rfl (by decide) (fun r w H locs hB hP hD hS => ?_)
  obtain ⟨x104, rfl, rfl⟩ := hB
  have hP : va_P E.1 gk_cl [(h0, .inr (0, [.ref q1, .ref q2, .ref q7, .ref q8, .int kk, .null])), (q1, .inl (E.2.1 1, 3000, .inl ff))] H := hP
  have hD : va_D A [(h0, .inr (0, [.ref q1, .ref q2, .ref q7, .ref q8, .int kk, .null])), (q1, .inl (E.2.1 1, 3000, .inl ff))] := hD
  refine W.widen (k := 0) (n := 0) (by omega) (by omega) ?_
  refine W.eq (g2 := F0 m 22 ls [.int x104]) rfl ?_
  refine lv_if_eq (tgt := 59) hx hb d_Jt_sign_22 (by decide) (fun c105 => ?_) (fun c105 => ?_)
  · refine lv_iinc (v := 16) (lv' := [(3, .int 16), (4, .int x103), (0, .ref h0), (1, .long cc)]) hx hb d_Jt_sign_59 hl (k := 1) rfl (by decide) (by decide) rfl (fun ls hl => ?_)
    refine lv_goto (tgt := 3) hx hb d_Jt_sign_62 (by decide) ?_
    exact l_Jt_sign_3 l E h0 q1 q2 q7 q8 cc X kk ff _ _ _ hk (lv_sub hl [0, 2, 3] rfl) hP hD hS
  · refine lv_aload_n hx hb d_Jt_sign_25 rfl (lv_at hl 2 rfl) ?_
    refine gk_get (b := h0) (ci := 0) (v := .int kk) X in_Jt hP 0 rfl rfl 4 (by decide) k_306 rfl d_Jt_sign_26 ?_
    refine lv_aload_n hx hb d_Jt_sign_29 rfl (lv_at hl 2 rfl) ?_
    refine gk_get (b := h0) (ci := 0) (v := .ref q1) X in_Jt hP 0 rfl rfl 0 (by decide) k_302 rfl d_Jt_sign_30 ?_
    refine va_alen (v := 3000) hx hb X.2.2.2.2.2.1.1 hP 1 1 rfl rfl rfl d_Jt_sign_33 ?_
    refine lv_icmp_ge (tgt := 59) hx hb d_Jt_sign_34 (by decide) (fun c106 => ?_) (fun c106 => ?_)
    · refine lv_iinc (v := 16) (lv' := [(3, .int 16), (4, .int x103), (0, .ref h0), (1, .long cc)]) hx hb d_Jt_sign_59 hl (k := 1) rfl (by decide) (by decide) rfl (fun ls hl => ?_)
      refine lv_goto (tgt := 3) hx hb d_Jt_sign_62 (by decide) ?_
      exact l_Jt_sign_3 l E h0 q1 q2 q7 q8 cc X kk ff _ _ _ hk (lv_sub hl [0, 2, 3] rfl) hP hD hS
    · refine lv_aload_n hx hb d_Jt_sign_37 rfl (lv_at hl 2 rfl) ?_
      refine gk_get (b := h0) (ci := 0) (v := .ref q1) X in_Jt hP 0 rfl rfl 0 (by decide) k_302 rfl d_Jt_sign_38 ?_
      refine lv_aload_n hx hb d_Jt_sign_41 rfl (lv_at hl 2 rfl) ?_
      refine gk_get (b := h0) (ci := 0) (v := .int kk) X in_Jt hP 0 rfl rfl 4 (by decide) k_306 rfl d_Jt_sign_42 ?_
      refine lv_iload hx hb d_Jt_sign_45 (lv_at hl 0 rfl) ?_
      refine lv_i2b hx hb d_Jt_sign_47 rfl ?_
      refine lv_topi (fun x107 ex107 => ?_)
      refine va_bast hx hb X.2.2.2.2.2.1.1 hP hD hS 1 1 rfl rfl (i := kk) (gk_k0 hk c106) d_Jt_sign_48 (fun H locs hP hD hS => ?_)
      obtain ⟨f108, ef108⟩ : ∃ g, g = upd ff (Int32.toNatClampNeg kk) (vp_nar .byte x107) := ⟨_, rfl⟩
      rw [← ef108] at hP hD
      have hP : va_P E.1 gk_cl [(h0, .inr (0, [.ref q1, .ref q2, .ref q7, .ref q8, .int kk, .null])), (q1, .inl (E.2.1 1, 3000, .inl f108))] H := hP
      have hD : va_D A [(h0, .inr (0, [.ref q1, .ref q2, .ref q7, .ref q8, .int kk, .null])), (q1, .inl (E.2.1 1, 3000, .inl f108))] := hD
      refine lv_aload_n hx hb d_Jt_sign_49 rfl (lv_at hl 2 rfl) ?_
      refine lv_dup hx hb d_Jt_sign_50 rfl ?_
      refine gk_get (b := h0) (ci := 0) (v := .int kk) X in_Jt hP 0 rfl rfl 4 (by decide) k_306 rfl d_Jt_sign_51 ?_
      refine lv_iconst (v := 1) hx hb d_Jt_sign_54 (by decide) ?_
      refine lv_iadd hx hb d_Jt_sign_55 ?_
      refine lv_topi (fun x109 ex109 => ?_)
      refine gk_put (b := h0) (ci := 0) (v := .int x109) (ty := t_Jt 4) (ws' := [(h0, .inr (0, [.ref q1, .ref q2, .ref q7, .ref q8, .int x109, .null])), (q1, .inl (E.2.1 1, 3000, .inl f108))]) X in_Jt t_Jt t_Jt_ok n_Jt hP hD hS 0 rfl rfl 4 (by decide) k_306 (Or.inl rfl) (t_Jt_ok 4 (by decide)) rfl rfl (Nat.le_of_ble_eq_true rfl) d_Jt_sign_56 rfl (fun H locs hP hD hS => ?_)
      refine lv_iinc (v := 16) (lv' := [(3, .int 16), (4, .int x103), (0, .ref h0), (1, .long cc)]) hx hb d_Jt_sign_59 hl (k := 1) rfl (by decide) (by decide) rfl (fun ls hl => ?_)
      refine lv_goto (tgt := 3) hx hb d_Jt_sign_62 (by decide) ?_
      exact l_Jt_sign_3 l E h0 q1 q2 q7 q8 cc X x109 f108 _ _ _ (by rw [ex109]; exact gk_k2 hk c106) (lv_sub hl [0, 2, 3] rfl) hP hD hS

set_option maxHeartbeats 4000000 in
set_option maxRecDepth 100000 in
theorem l_Jt_sign_5 {p : Program} {e : Env} {s : State} {m : MethodId} {below : List Frame} {meth : Method} {c : Code} {A : Nat → Prop} (l : Launch) (E : gk_E) (h0 : Nat) (q1 : Nat) (q2 : Nat) (q7 : Nat) (q8 : Nat) (cc : Int64) (X : gk_X E p s m ([.ref h0, .long cc] : List Value).toArray meth c y_Jt_sign b_Jt_sign 5 (none) A) : ∀ (kk : Int32) (ff : Nat → Int32) (H : Heap) (locs : List Loc) (ls : Array Slot), ¬ kk < 0 → lv_has ls 5 [(3, .int 32), (0, .ref h0), (1, .long cc)] → va_P E.1 gk_cl [(h0, .inr (0, [.ref q1, .ref q2, .ref q7, .ref q8, .int kk, .null])), (q1, .inl (E.2.1 1, 3000, .inl ff))] H → va_D A [(h0, .inr (0, [.ref q1, .ref q2, .ref q7, .ref q8, .int kk, .null])), (q1, .inl (E.2.1 1, 3000, .inl ff))] → va_S A s.heap H locs → W p l e (gk_rm 1 0 0) s m ([.ref h0, .long cc] : List Value).toArray below meth c H locs 0 0 (MQ below (gk_Q E A (fun r w => r = none ∧ w = [])) ([.ref h0, .long cc] : List Value).toArray s 0 0 A) (F0 m 3 ls []) := by
  intro kk ff H locs ls hk hl hP hD hS
  have hx := X.1
  have hb := X.2.1
  have hown := X.2.2.2.1
  have hts := X.2.2.2.2.1
  have hr := X.2.2.2.2.2.2.2.2.1
  have hlocks : meth.locks = false := X.2.2.2.2.2.2.2.2.2.1
  refine lv_iload_n hx hb d_Jt_sign_3 rfl (lv_at hl 0 rfl) ?_
  refine lv_if_lt (tgt := 65) hx hb d_Jt_sign_4 (by decide) (fun c9 => absurd c9 (by decide)) (fun _ => ?_)
  refine lv_lload_n hx hb d_Jt_sign_7 rfl (lv_at hl 2 rfl) ?_
  refine lv_iload_n hx hb d_Jt_sign_8 rfl (lv_at hl 0 rfl) ?_
  refine lv_lushr hx hb d_Jt_sign_9 rfl ?_
  refine lv_topl (fun x101 ex101 => ?_)
  refine lv_l2i hx hb d_Jt_sign_10 rfl ?_
  refine lv_topi (fun x102 ex102 => ?_)
  refine lv_sipush (v := 255) hx hb d_Jt_sign_11 (by decide) ?_
  refine lv_iand hx hb d_Jt_sign_14 ?_
  refine lv_topi (fun x103 ex103 => ?_)
  refine lv_istore (lv' := [(4, .int x103), (3, .int 32), (0, .ref h0), (1, .long cc)]) hx hb d_Jt_sign_15 hl (by decide) rfl (fun ls hl => ?_)
  refine lv_iload hx hb d_Jt_sign_17 (lv_at hl 0 rfl) ?_
  refine gk_back (wr := [(h0, .inr (0, [.ref q1, .ref q2, .ref q7, .ref q8, .int kk, .null])), (q1, .inl (E.2.1 1, 3000, .inl ff))]) (gk_runS (As := [.int x103]) (rest := []) X (c_Jt_isSign l E x103 H.size) ok_Jt_isSign (Or.inl k_325) k_326 rfl hP hD hS [] rfl rfl hl.1 rfl (Nat.le_of_ble_eq_true rfl) d_Jt_sign_19 ⟨(Nat.le_of_ble_eq_true rfl), (Nat.le_of_ble_eq_true rfl)⟩ ⟨(Nat.le_of_ble_eq_true rfl), (Nat.le_of_ble_eq_true rfl)⟩) hP hD hS X.2.2.2.2.2.2.2.1 [] [0, 1] rfl rfl rfl (by decide) (fun r w H locs hB hP hD hS => ?_)
  obtain ⟨x104, rfl, rfl⟩ := hB
  have hP : va_P E.1 gk_cl [(h0, .inr (0, [.ref q1, .ref q2, .ref q7, .ref q8, .int kk, .null])), (q1, .inl (E.2.1 1, 3000, .inl ff))] H := hP
  have hD : va_D A [(h0, .inr (0, [.ref q1, .ref q2, .ref q7, .ref q8, .int kk, .null])), (q1, .inl (E.2.1 1, 3000, .inl ff))] := hD
  refine W.widen (k := 0) (n := 0) (by omega) (by omega) ?_
  refine W.eq (g2 := F0 m 22 ls [.int x104]) rfl ?_
  refine lv_if_eq (tgt := 59) hx hb d_Jt_sign_22 (by decide) (fun c105 => ?_) (fun c105 => ?_)
  · refine lv_iinc (v := 24) (lv' := [(3, .int 24), (4, .int x103), (0, .ref h0), (1, .long cc)]) hx hb d_Jt_sign_59 hl (k := 1) rfl (by decide) (by decide) rfl (fun ls hl => ?_)
    refine lv_goto (tgt := 3) hx hb d_Jt_sign_62 (by decide) ?_
    exact l_Jt_sign_4 l E h0 q1 q2 q7 q8 cc X kk ff _ _ _ hk (lv_sub hl [0, 2, 3] rfl) hP hD hS
  · refine lv_aload_n hx hb d_Jt_sign_25 rfl (lv_at hl 2 rfl) ?_
    refine gk_get (b := h0) (ci := 0) (v := .int kk) X in_Jt hP 0 rfl rfl 4 (by decide) k_306 rfl d_Jt_sign_26 ?_
    refine lv_aload_n hx hb d_Jt_sign_29 rfl (lv_at hl 2 rfl) ?_
    refine gk_get (b := h0) (ci := 0) (v := .ref q1) X in_Jt hP 0 rfl rfl 0 (by decide) k_302 rfl d_Jt_sign_30 ?_
    refine va_alen (v := 3000) hx hb X.2.2.2.2.2.1.1 hP 1 1 rfl rfl rfl d_Jt_sign_33 ?_
    refine lv_icmp_ge (tgt := 59) hx hb d_Jt_sign_34 (by decide) (fun c106 => ?_) (fun c106 => ?_)
    · refine lv_iinc (v := 24) (lv' := [(3, .int 24), (4, .int x103), (0, .ref h0), (1, .long cc)]) hx hb d_Jt_sign_59 hl (k := 1) rfl (by decide) (by decide) rfl (fun ls hl => ?_)
      refine lv_goto (tgt := 3) hx hb d_Jt_sign_62 (by decide) ?_
      exact l_Jt_sign_4 l E h0 q1 q2 q7 q8 cc X kk ff _ _ _ hk (lv_sub hl [0, 2, 3] rfl) hP hD hS
    · refine lv_aload_n hx hb d_Jt_sign_37 rfl (lv_at hl 2 rfl) ?_
      refine gk_get (b := h0) (ci := 0) (v := .ref q1) X in_Jt hP 0 rfl rfl 0 (by decide) k_302 rfl d_Jt_sign_38 ?_
      refine lv_aload_n hx hb d_Jt_sign_41 rfl (lv_at hl 2 rfl) ?_
      refine gk_get (b := h0) (ci := 0) (v := .int kk) X in_Jt hP 0 rfl rfl 4 (by decide) k_306 rfl d_Jt_sign_42 ?_
      refine lv_iload hx hb d_Jt_sign_45 (lv_at hl 0 rfl) ?_
      refine lv_i2b hx hb d_Jt_sign_47 rfl ?_
      refine lv_topi (fun x107 ex107 => ?_)
      refine va_bast hx hb X.2.2.2.2.2.1.1 hP hD hS 1 1 rfl rfl (i := kk) (gk_k0 hk c106) d_Jt_sign_48 (fun H locs hP hD hS => ?_)
      obtain ⟨f108, ef108⟩ : ∃ g, g = upd ff (Int32.toNatClampNeg kk) (vp_nar .byte x107) := ⟨_, rfl⟩
      rw [← ef108] at hP hD
      have hP : va_P E.1 gk_cl [(h0, .inr (0, [.ref q1, .ref q2, .ref q7, .ref q8, .int kk, .null])), (q1, .inl (E.2.1 1, 3000, .inl f108))] H := hP
      have hD : va_D A [(h0, .inr (0, [.ref q1, .ref q2, .ref q7, .ref q8, .int kk, .null])), (q1, .inl (E.2.1 1, 3000, .inl f108))] := hD
      refine lv_aload_n hx hb d_Jt_sign_49 rfl (lv_at hl 2 rfl) ?_
      refine lv_dup hx hb d_Jt_sign_50 rfl ?_
      refine gk_get (b := h0) (ci := 0) (v := .int kk) X in_Jt hP 0 rfl rfl 4 (by decide) k_306 rfl d_Jt_sign_51 ?_
      refine lv_iconst (v := 1) hx hb d_Jt_sign_54 (by decide) ?_
      refine lv_iadd hx hb d_Jt_sign_55 ?_
      refine lv_topi (fun x109 ex109 => ?_)
      refine gk_put (b := h0) (ci := 0) (v := .int x109) (ty := t_Jt 4) (ws' := [(h0, .inr (0, [.ref q1, .ref q2, .ref q7, .ref q8, .int x109, .null])), (q1, .inl (E.2.1 1, 3000, .inl f108))]) X in_Jt t_Jt t_Jt_ok n_Jt hP hD hS 0 rfl rfl 4 (by decide) k_306 (Or.inl rfl) (t_Jt_ok 4 (by decide)) rfl rfl (Nat.le_of_ble_eq_true rfl) d_Jt_sign_56 rfl (fun H locs hP hD hS => ?_)
      refine lv_iinc (v := 24) (lv' := [(3, .int 24), (4, .int x103), (0, .ref h0), (1, .long cc)]) hx hb d_Jt_sign_59 hl (k := 1) rfl (by decide) (by decide) rfl (fun ls hl => ?_)
      refine lv_goto (tgt := 3) hx hb d_Jt_sign_62 (by decide) ?_
      exact l_Jt_sign_4 l E h0 q1 q2 q7 q8 cc X x109 f108 _ _ _ (by rw [ex109]; exact gk_k2 hk c106) (lv_sub hl [0, 2, 3] rfl) hP hD hS

set_option maxHeartbeats 4000000 in
set_option maxRecDepth 100000 in
theorem l_Jt_sign_6 {p : Program} {e : Env} {s : State} {m : MethodId} {below : List Frame} {meth : Method} {c : Code} {A : Nat → Prop} (l : Launch) (E : gk_E) (h0 : Nat) (q1 : Nat) (q2 : Nat) (q7 : Nat) (q8 : Nat) (cc : Int64) (X : gk_X E p s m ([.ref h0, .long cc] : List Value).toArray meth c y_Jt_sign b_Jt_sign 5 (none) A) : ∀ (kk : Int32) (ff : Nat → Int32) (H : Heap) (locs : List Loc) (ls : Array Slot), ¬ kk < 0 → lv_has ls 5 [(3, .int 40), (0, .ref h0), (1, .long cc)] → va_P E.1 gk_cl [(h0, .inr (0, [.ref q1, .ref q2, .ref q7, .ref q8, .int kk, .null])), (q1, .inl (E.2.1 1, 3000, .inl ff))] H → va_D A [(h0, .inr (0, [.ref q1, .ref q2, .ref q7, .ref q8, .int kk, .null])), (q1, .inl (E.2.1 1, 3000, .inl ff))] → va_S A s.heap H locs → W p l e (gk_rm 1 0 0) s m ([.ref h0, .long cc] : List Value).toArray below meth c H locs 0 0 (MQ below (gk_Q E A (fun r w => r = none ∧ w = [])) ([.ref h0, .long cc] : List Value).toArray s 0 0 A) (F0 m 3 ls []) := by
  intro kk ff H locs ls hk hl hP hD hS
  have hx := X.1
  have hb := X.2.1
  have hown := X.2.2.2.1
  have hts := X.2.2.2.2.1
  have hr := X.2.2.2.2.2.2.2.2.1
  have hlocks : meth.locks = false := X.2.2.2.2.2.2.2.2.2.1
  refine lv_iload_n hx hb d_Jt_sign_3 rfl (lv_at hl 0 rfl) ?_
  refine lv_if_lt (tgt := 65) hx hb d_Jt_sign_4 (by decide) (fun c9 => absurd c9 (by decide)) (fun _ => ?_)
  refine lv_lload_n hx hb d_Jt_sign_7 rfl (lv_at hl 2 rfl) ?_
  refine lv_iload_n hx hb d_Jt_sign_8 rfl (lv_at hl 0 rfl) ?_
  refine lv_lushr hx hb d_Jt_sign_9 rfl ?_
  refine lv_topl (fun x101 ex101 => ?_)
  refine lv_l2i hx hb d_Jt_sign_10 rfl ?_
  refine lv_topi (fun x102 ex102 => ?_)
  refine lv_sipush (v := 255) hx hb d_Jt_sign_11 (by decide) ?_
  refine lv_iand hx hb d_Jt_sign_14 ?_
  refine lv_topi (fun x103 ex103 => ?_)
  refine lv_istore (lv' := [(4, .int x103), (3, .int 40), (0, .ref h0), (1, .long cc)]) hx hb d_Jt_sign_15 hl (by decide) rfl (fun ls hl => ?_)
  refine lv_iload hx hb d_Jt_sign_17 (lv_at hl 0 rfl) ?_
  refine gk_back (wr := [(h0, .inr (0, [.ref q1, .ref q2, .ref q7, .ref q8, .int kk, .null])), (q1, .inl (E.2.1 1, 3000, .inl ff))]) (gk_runS (As := [.int x103]) (rest := []) X (c_Jt_isSign l E x103 H.size) ok_Jt_isSign (Or.inl k_325) k_326 rfl hP hD hS [] rfl rfl hl.1 rfl (Nat.le_of_ble_eq_true rfl) d_Jt_sign_19 ⟨(Nat.le_of_ble_eq_true rfl), (Nat.le_of_ble_eq_true rfl)⟩ ⟨(Nat.le_of_ble_eq_true rfl), (Nat.le_of_ble_eq_true rfl)⟩) hP hD hS X.2.2.2.2.2.2.2.1 [] [0, 1] rfl rfl rfl (by decide) (fun r w H locs hB hP hD hS => ?_)
  obtain ⟨x104, rfl, rfl⟩ := hB
  have hP : va_P E.1 gk_cl [(h0, .inr (0, [.ref q1, .ref q2, .ref q7, .ref q8, .int kk, .null])), (q1, .inl (E.2.1 1, 3000, .inl ff))] H := hP
  have hD : va_D A [(h0, .inr (0, [.ref q1, .ref q2, .ref q7, .ref q8, .int kk, .null])), (q1, .inl (E.2.1 1, 3000, .inl ff))] := hD
  refine W.widen (k := 0) (n := 0) (by omega) (by omega) ?_
  refine W.eq (g2 := F0 m 22 ls [.int x104]) rfl ?_
  refine lv_if_eq (tgt := 59) hx hb d_Jt_sign_22 (by decide) (fun c105 => ?_) (fun c105 => ?_)
  · refine lv_iinc (v := 32) (lv' := [(3, .int 32), (4, .int x103), (0, .ref h0), (1, .long cc)]) hx hb d_Jt_sign_59 hl (k := 1) rfl (by decide) (by decide) rfl (fun ls hl => ?_)
    refine lv_goto (tgt := 3) hx hb d_Jt_sign_62 (by decide) ?_
    exact l_Jt_sign_5 l E h0 q1 q2 q7 q8 cc X kk ff _ _ _ hk (lv_sub hl [0, 2, 3] rfl) hP hD hS
  · refine lv_aload_n hx hb d_Jt_sign_25 rfl (lv_at hl 2 rfl) ?_
    refine gk_get (b := h0) (ci := 0) (v := .int kk) X in_Jt hP 0 rfl rfl 4 (by decide) k_306 rfl d_Jt_sign_26 ?_
    refine lv_aload_n hx hb d_Jt_sign_29 rfl (lv_at hl 2 rfl) ?_
    refine gk_get (b := h0) (ci := 0) (v := .ref q1) X in_Jt hP 0 rfl rfl 0 (by decide) k_302 rfl d_Jt_sign_30 ?_
    refine va_alen (v := 3000) hx hb X.2.2.2.2.2.1.1 hP 1 1 rfl rfl rfl d_Jt_sign_33 ?_
    refine lv_icmp_ge (tgt := 59) hx hb d_Jt_sign_34 (by decide) (fun c106 => ?_) (fun c106 => ?_)
    · refine lv_iinc (v := 32) (lv' := [(3, .int 32), (4, .int x103), (0, .ref h0), (1, .long cc)]) hx hb d_Jt_sign_59 hl (k := 1) rfl (by decide) (by decide) rfl (fun ls hl => ?_)
      refine lv_goto (tgt := 3) hx hb d_Jt_sign_62 (by decide) ?_
      exact l_Jt_sign_5 l E h0 q1 q2 q7 q8 cc X kk ff _ _ _ hk (lv_sub hl [0, 2, 3] rfl) hP hD hS
    · refine lv_aload_n hx hb d_Jt_sign_37 rfl (lv_at hl 2 rfl) ?_
      refine gk_get (b := h0) (ci := 0) (v := .ref q1) X in_Jt hP 0 rfl rfl 0 (by decide) k_302 rfl d_Jt_sign_38 ?_
      refine lv_aload_n hx hb d_Jt_sign_41 rfl (lv_at hl 2 rfl) ?_
      refine gk_get (b := h0) (ci := 0) (v := .int kk) X in_Jt hP 0 rfl rfl 4 (by decide) k_306 rfl d_Jt_sign_42 ?_
      refine lv_iload hx hb d_Jt_sign_45 (lv_at hl 0 rfl) ?_
      refine lv_i2b hx hb d_Jt_sign_47 rfl ?_
      refine lv_topi (fun x107 ex107 => ?_)
      refine va_bast hx hb X.2.2.2.2.2.1.1 hP hD hS 1 1 rfl rfl (i := kk) (gk_k0 hk c106) d_Jt_sign_48 (fun H locs hP hD hS => ?_)
      obtain ⟨f108, ef108⟩ : ∃ g, g = upd ff (Int32.toNatClampNeg kk) (vp_nar .byte x107) := ⟨_, rfl⟩
      rw [← ef108] at hP hD
      have hP : va_P E.1 gk_cl [(h0, .inr (0, [.ref q1, .ref q2, .ref q7, .ref q8, .int kk, .null])), (q1, .inl (E.2.1 1, 3000, .inl f108))] H := hP
      have hD : va_D A [(h0, .inr (0, [.ref q1, .ref q2, .ref q7, .ref q8, .int kk, .null])), (q1, .inl (E.2.1 1, 3000, .inl f108))] := hD
      refine lv_aload_n hx hb d_Jt_sign_49 rfl (lv_at hl 2 rfl) ?_
      refine lv_dup hx hb d_Jt_sign_50 rfl ?_
      refine gk_get (b := h0) (ci := 0) (v := .int kk) X in_Jt hP 0 rfl rfl 4 (by decide) k_306 rfl d_Jt_sign_51 ?_
      refine lv_iconst (v := 1) hx hb d_Jt_sign_54 (by decide) ?_
      refine lv_iadd hx hb d_Jt_sign_55 ?_
      refine lv_topi (fun x109 ex109 => ?_)
      refine gk_put (b := h0) (ci := 0) (v := .int x109) (ty := t_Jt 4) (ws' := [(h0, .inr (0, [.ref q1, .ref q2, .ref q7, .ref q8, .int x109, .null])), (q1, .inl (E.2.1 1, 3000, .inl f108))]) X in_Jt t_Jt t_Jt_ok n_Jt hP hD hS 0 rfl rfl 4 (by decide) k_306 (Or.inl rfl) (t_Jt_ok 4 (by decide)) rfl rfl (Nat.le_of_ble_eq_true rfl) d_Jt_sign_56 rfl (fun H locs hP hD hS => ?_)
      refine lv_iinc (v := 32) (lv' := [(3, .int 32), (4, .int x103), (0, .ref h0), (1, .long cc)]) hx hb d_Jt_sign_59 hl (k := 1) rfl (by decide) (by decide) rfl (fun ls hl => ?_)
      refine lv_goto (tgt := 3) hx hb d_Jt_sign_62 (by decide) ?_
      exact l_Jt_sign_5 l E h0 q1 q2 q7 q8 cc X x109 f108 _ _ _ (by rw [ex109]; exact gk_k2 hk c106) (lv_sub hl [0, 2, 3] rfl) hP hD hS

set_option maxHeartbeats 4000000 in
set_option maxRecDepth 100000 in
theorem l_Jt_sign_7 {p : Program} {e : Env} {s : State} {m : MethodId} {below : List Frame} {meth : Method} {c : Code} {A : Nat → Prop} (l : Launch) (E : gk_E) (h0 : Nat) (q1 : Nat) (q2 : Nat) (q7 : Nat) (q8 : Nat) (cc : Int64) (X : gk_X E p s m ([.ref h0, .long cc] : List Value).toArray meth c y_Jt_sign b_Jt_sign 5 (none) A) : ∀ (kk : Int32) (ff : Nat → Int32) (H : Heap) (locs : List Loc) (ls : Array Slot), ¬ kk < 0 → lv_has ls 5 [(3, .int 48), (0, .ref h0), (1, .long cc)] → va_P E.1 gk_cl [(h0, .inr (0, [.ref q1, .ref q2, .ref q7, .ref q8, .int kk, .null])), (q1, .inl (E.2.1 1, 3000, .inl ff))] H → va_D A [(h0, .inr (0, [.ref q1, .ref q2, .ref q7, .ref q8, .int kk, .null])), (q1, .inl (E.2.1 1, 3000, .inl ff))] → va_S A s.heap H locs → W p l e (gk_rm 1 0 0) s m ([.ref h0, .long cc] : List Value).toArray below meth c H locs 0 0 (MQ below (gk_Q E A (fun r w => r = none ∧ w = [])) ([.ref h0, .long cc] : List Value).toArray s 0 0 A) (F0 m 3 ls []) := by
  intro kk ff H locs ls hk hl hP hD hS
  have hx := X.1
  have hb := X.2.1
  have hown := X.2.2.2.1
  have hts := X.2.2.2.2.1
  have hr := X.2.2.2.2.2.2.2.2.1
  have hlocks : meth.locks = false := X.2.2.2.2.2.2.2.2.2.1
  refine lv_iload_n hx hb d_Jt_sign_3 rfl (lv_at hl 0 rfl) ?_
  refine lv_if_lt (tgt := 65) hx hb d_Jt_sign_4 (by decide) (fun c9 => absurd c9 (by decide)) (fun _ => ?_)
  refine lv_lload_n hx hb d_Jt_sign_7 rfl (lv_at hl 2 rfl) ?_
  refine lv_iload_n hx hb d_Jt_sign_8 rfl (lv_at hl 0 rfl) ?_
  refine lv_lushr hx hb d_Jt_sign_9 rfl ?_
  refine lv_topl (fun x101 ex101 => ?_)
  refine lv_l2i hx hb d_Jt_sign_10 rfl ?_
  refine lv_topi (fun x102 ex102 => ?_)
  refine lv_sipush (v := 255) hx hb d_Jt_sign_11 (by decide) ?_
  refine lv_iand hx hb d_Jt_sign_14 ?_
  refine lv_topi (fun x103 ex103 => ?_)
  refine lv_istore (lv' := [(4, .int x103), (3, .int 48), (0, .ref h0), (1, .long cc)]) hx hb d_Jt_sign_15 hl (by decide) rfl (fun ls hl => ?_)
  refine lv_iload hx hb d_Jt_sign_17 (lv_at hl 0 rfl) ?_
  refine gk_back (wr := [(h0, .inr (0, [.ref q1, .ref q2, .ref q7, .ref q8, .int kk, .null])), (q1, .inl (E.2.1 1, 3000, .inl ff))]) (gk_runS (As := [.int x103]) (rest := []) X (c_Jt_isSign l E x103 H.size) ok_Jt_isSign (Or.inl k_325) k_326 rfl hP hD hS [] rfl rfl hl.1 rfl (Nat.le_of_ble_eq_true rfl) d_Jt_sign_19 ⟨(Nat.le_of_ble_eq_true rfl), (Nat.le_of_ble_eq_true rfl)⟩ ⟨(Nat.le_of_ble_eq_true rfl), (Nat.le_of_ble_eq_true rfl)⟩) hP hD hS X.2.2.2.2.2.2.2.1 [] [0, 1] rfl rfl rfl (by decide) (fun r w H locs hB hP hD hS => ?_)
  obtain ⟨x104, rfl, rfl⟩ := hB
  have hP : va_P E.1 gk_cl [(h0, .inr (0, [.ref q1, .ref q2, .ref q7, .ref q8, .int kk, .null])), (q1, .inl (E.2.1 1, 3000, .inl ff))] H := hP
  have hD : va_D A [(h0, .inr (0, [.ref q1, .ref q2, .ref q7, .ref q8, .int kk, .null])), (q1, .inl (E.2.1 1, 3000, .inl ff))] := hD
  refine W.widen (k := 0) (n := 0) (by omega) (by omega) ?_
  refine W.eq (g2 := F0 m 22 ls [.int x104]) rfl ?_
  refine lv_if_eq (tgt := 59) hx hb d_Jt_sign_22 (by decide) (fun c105 => ?_) (fun c105 => ?_)
  · refine lv_iinc (v := 40) (lv' := [(3, .int 40), (4, .int x103), (0, .ref h0), (1, .long cc)]) hx hb d_Jt_sign_59 hl (k := 1) rfl (by decide) (by decide) rfl (fun ls hl => ?_)
    refine lv_goto (tgt := 3) hx hb d_Jt_sign_62 (by decide) ?_
    exact l_Jt_sign_6 l E h0 q1 q2 q7 q8 cc X kk ff _ _ _ hk (lv_sub hl [0, 2, 3] rfl) hP hD hS
  · refine lv_aload_n hx hb d_Jt_sign_25 rfl (lv_at hl 2 rfl) ?_
    refine gk_get (b := h0) (ci := 0) (v := .int kk) X in_Jt hP 0 rfl rfl 4 (by decide) k_306 rfl d_Jt_sign_26 ?_
    refine lv_aload_n hx hb d_Jt_sign_29 rfl (lv_at hl 2 rfl) ?_
    refine gk_get (b := h0) (ci := 0) (v := .ref q1) X in_Jt hP 0 rfl rfl 0 (by decide) k_302 rfl d_Jt_sign_30 ?_
    refine va_alen (v := 3000) hx hb X.2.2.2.2.2.1.1 hP 1 1 rfl rfl rfl d_Jt_sign_33 ?_
    refine lv_icmp_ge (tgt := 59) hx hb d_Jt_sign_34 (by decide) (fun c106 => ?_) (fun c106 => ?_)
    · refine lv_iinc (v := 40) (lv' := [(3, .int 40), (4, .int x103), (0, .ref h0), (1, .long cc)]) hx hb d_Jt_sign_59 hl (k := 1) rfl (by decide) (by decide) rfl (fun ls hl => ?_)
      refine lv_goto (tgt := 3) hx hb d_Jt_sign_62 (by decide) ?_
      exact l_Jt_sign_6 l E h0 q1 q2 q7 q8 cc X kk ff _ _ _ hk (lv_sub hl [0, 2, 3] rfl) hP hD hS
    · refine lv_aload_n hx hb d_Jt_sign_37 rfl (lv_at hl 2 rfl) ?_
      refine gk_get (b := h0) (ci := 0) (v := .ref q1) X in_Jt hP 0 rfl rfl 0 (by decide) k_302 rfl d_Jt_sign_38 ?_
      refine lv_aload_n hx hb d_Jt_sign_41 rfl (lv_at hl 2 rfl) ?_
      refine gk_get (b := h0) (ci := 0) (v := .int kk) X in_Jt hP 0 rfl rfl 4 (by decide) k_306 rfl d_Jt_sign_42 ?_
      refine lv_iload hx hb d_Jt_sign_45 (lv_at hl 0 rfl) ?_
      refine lv_i2b hx hb d_Jt_sign_47 rfl ?_
      refine lv_topi (fun x107 ex107 => ?_)
      refine va_bast hx hb X.2.2.2.2.2.1.1 hP hD hS 1 1 rfl rfl (i := kk) (gk_k0 hk c106) d_Jt_sign_48 (fun H locs hP hD hS => ?_)
      obtain ⟨f108, ef108⟩ : ∃ g, g = upd ff (Int32.toNatClampNeg kk) (vp_nar .byte x107) := ⟨_, rfl⟩
      rw [← ef108] at hP hD
      have hP : va_P E.1 gk_cl [(h0, .inr (0, [.ref q1, .ref q2, .ref q7, .ref q8, .int kk, .null])), (q1, .inl (E.2.1 1, 3000, .inl f108))] H := hP
      have hD : va_D A [(h0, .inr (0, [.ref q1, .ref q2, .ref q7, .ref q8, .int kk, .null])), (q1, .inl (E.2.1 1, 3000, .inl f108))] := hD
      refine lv_aload_n hx hb d_Jt_sign_49 rfl (lv_at hl 2 rfl) ?_
      refine lv_dup hx hb d_Jt_sign_50 rfl ?_
      refine gk_get (b := h0) (ci := 0) (v := .int kk) X in_Jt hP 0 rfl rfl 4 (by decide) k_306 rfl d_Jt_sign_51 ?_
      refine lv_iconst (v := 1) hx hb d_Jt_sign_54 (by decide) ?_
      refine lv_iadd hx hb d_Jt_sign_55 ?_
      refine lv_topi (fun x109 ex109 => ?_)
      refine gk_put (b := h0) (ci := 0) (v := .int x109) (ty := t_Jt 4) (ws' := [(h0, .inr (0, [.ref q1, .ref q2, .ref q7, .ref q8, .int x109, .null])), (q1, .inl (E.2.1 1, 3000, .inl f108))]) X in_Jt t_Jt t_Jt_ok n_Jt hP hD hS 0 rfl rfl 4 (by decide) k_306 (Or.inl rfl) (t_Jt_ok 4 (by decide)) rfl rfl (Nat.le_of_ble_eq_true rfl) d_Jt_sign_56 rfl (fun H locs hP hD hS => ?_)
      refine lv_iinc (v := 40) (lv' := [(3, .int 40), (4, .int x103), (0, .ref h0), (1, .long cc)]) hx hb d_Jt_sign_59 hl (k := 1) rfl (by decide) (by decide) rfl (fun ls hl => ?_)
      refine lv_goto (tgt := 3) hx hb d_Jt_sign_62 (by decide) ?_
      exact l_Jt_sign_6 l E h0 q1 q2 q7 q8 cc X x109 f108 _ _ _ (by rw [ex109]; exact gk_k2 hk c106) (lv_sub hl [0, 2, 3] rfl) hP hD hS

set_option maxHeartbeats 4000000 in
set_option maxRecDepth 100000 in
theorem l_Jt_sign_8 {p : Program} {e : Env} {s : State} {m : MethodId} {below : List Frame} {meth : Method} {c : Code} {A : Nat → Prop} (l : Launch) (E : gk_E) (h0 : Nat) (q1 : Nat) (q2 : Nat) (q7 : Nat) (q8 : Nat) (cc : Int64) (X : gk_X E p s m ([.ref h0, .long cc] : List Value).toArray meth c y_Jt_sign b_Jt_sign 5 (none) A) : ∀ (kk : Int32) (ff : Nat → Int32) (H : Heap) (locs : List Loc) (ls : Array Slot), ¬ kk < 0 → lv_has ls 5 [(3, .int 56), (0, .ref h0), (1, .long cc)] → va_P E.1 gk_cl [(h0, .inr (0, [.ref q1, .ref q2, .ref q7, .ref q8, .int kk, .null])), (q1, .inl (E.2.1 1, 3000, .inl ff))] H → va_D A [(h0, .inr (0, [.ref q1, .ref q2, .ref q7, .ref q8, .int kk, .null])), (q1, .inl (E.2.1 1, 3000, .inl ff))] → va_S A s.heap H locs → W p l e (gk_rm 1 0 0) s m ([.ref h0, .long cc] : List Value).toArray below meth c H locs 0 0 (MQ below (gk_Q E A (fun r w => r = none ∧ w = [])) ([.ref h0, .long cc] : List Value).toArray s 0 0 A) (F0 m 3 ls []) := by
  intro kk ff H locs ls hk hl hP hD hS
  have hx := X.1
  have hb := X.2.1
  have hown := X.2.2.2.1
  have hts := X.2.2.2.2.1
  have hr := X.2.2.2.2.2.2.2.2.1
  have hlocks : meth.locks = false := X.2.2.2.2.2.2.2.2.2.1
  refine lv_iload_n hx hb d_Jt_sign_3 rfl (lv_at hl 0 rfl) ?_
  refine lv_if_lt (tgt := 65) hx hb d_Jt_sign_4 (by decide) (fun c9 => absurd c9 (by decide)) (fun _ => ?_)
  refine lv_lload_n hx hb d_Jt_sign_7 rfl (lv_at hl 2 rfl) ?_
  refine lv_iload_n hx hb d_Jt_sign_8 rfl (lv_at hl 0 rfl) ?_
  refine lv_lushr hx hb d_Jt_sign_9 rfl ?_
  refine lv_topl (fun x101 ex101 => ?_)
  refine lv_l2i hx hb d_Jt_sign_10 rfl ?_
  refine lv_topi (fun x102 ex102 => ?_)
  refine lv_sipush (v := 255) hx hb d_Jt_sign_11 (by decide) ?_
  refine lv_iand hx hb d_Jt_sign_14 ?_
  refine lv_topi (fun x103 ex103 => ?_)
  refine lv_istore (lv' := [(4, .int x103), (3, .int 56), (0, .ref h0), (1, .long cc)]) hx hb d_Jt_sign_15 hl (by decide) rfl (fun ls hl => ?_)
  refine lv_iload hx hb d_Jt_sign_17 (lv_at hl 0 rfl) ?_
  refine gk_back (wr := [(h0, .inr (0, [.ref q1, .ref q2, .ref q7, .ref q8, .int kk, .null])), (q1, .inl (E.2.1 1, 3000, .inl ff))]) (gk_runS (As := [.int x103]) (rest := []) X (c_Jt_isSign l E x103 H.size) ok_Jt_isSign (Or.inl k_325) k_326 rfl hP hD hS [] rfl rfl hl.1 rfl (Nat.le_of_ble_eq_true rfl) d_Jt_sign_19 ⟨(Nat.le_of_ble_eq_true rfl), (Nat.le_of_ble_eq_true rfl)⟩ ⟨(Nat.le_of_ble_eq_true rfl), (Nat.le_of_ble_eq_true rfl)⟩) hP hD hS X.2.2.2.2.2.2.2.1 [] [0, 1] rfl rfl rfl (by decide) (fun r w H locs hB hP hD hS => ?_)
  obtain ⟨x104, rfl, rfl⟩ := hB
  have hP : va_P E.1 gk_cl [(h0, .inr (0, [.ref q1, .ref q2, .ref q7, .ref q8, .int kk, .null])), (q1, .inl (E.2.1 1, 3000, .inl ff))] H := hP
  have hD : va_D A [(h0, .inr (0, [.ref q1, .ref q2, .ref q7, .ref q8, .int kk, .null])), (q1, .inl (E.2.1 1, 3000, .inl ff))] := hD
  refine W.widen (k := 0) (n := 0) (by omega) (by omega) ?_
  refine W.eq (g2 := F0 m 22 ls [.int x104]) rfl ?_
  refine lv_if_eq (tgt := 59) hx hb d_Jt_sign_22 (by decide) (fun c105 => ?_) (fun c105 => ?_)
  · refine lv_iinc (v := 48) (lv' := [(3, .int 48), (4, .int x103), (0, .ref h0), (1, .long cc)]) hx hb d_Jt_sign_59 hl (k := 1) rfl (by decide) (by decide) rfl (fun ls hl => ?_)
    refine lv_goto (tgt := 3) hx hb d_Jt_sign_62 (by decide) ?_
    exact l_Jt_sign_7 l E h0 q1 q2 q7 q8 cc X kk ff _ _ _ hk (lv_sub hl [0, 2, 3] rfl) hP hD hS
  · refine lv_aload_n hx hb d_Jt_sign_25 rfl (lv_at hl 2 rfl) ?_
    refine gk_get (b := h0) (ci := 0) (v := .int kk) X in_Jt hP 0 rfl rfl 4 (by decide) k_306 rfl d_Jt_sign_26 ?_
    refine lv_aload_n hx hb d_Jt_sign_29 rfl (lv_at hl 2 rfl) ?_
    refine gk_get (b := h0) (ci := 0) (v := .ref q1) X in_Jt hP 0 rfl rfl 0 (by decide) k_302 rfl d_Jt_sign_30 ?_
    refine va_alen (v := 3000) hx hb X.2.2.2.2.2.1.1 hP 1 1 rfl rfl rfl d_Jt_sign_33 ?_
    refine lv_icmp_ge (tgt := 59) hx hb d_Jt_sign_34 (by decide) (fun c106 => ?_) (fun c106 => ?_)
    · refine lv_iinc (v := 48) (lv' := [(3, .int 48), (4, .int x103), (0, .ref h0), (1, .long cc)]) hx hb d_Jt_sign_59 hl (k := 1) rfl (by decide) (by decide) rfl (fun ls hl => ?_)
      refine lv_goto (tgt := 3) hx hb d_Jt_sign_62 (by decide) ?_
      exact l_Jt_sign_7 l E h0 q1 q2 q7 q8 cc X kk ff _ _ _ hk (lv_sub hl [0, 2, 3] rfl) hP hD hS
    · refine lv_aload_n hx hb d_Jt_sign_37 rfl (lv_at hl 2 rfl) ?_
      refine gk_get (b := h0) (ci := 0) (v := .ref q1) X in_Jt hP 0 rfl rfl 0 (by decide) k_302 rfl d_Jt_sign_38 ?_
      refine lv_aload_n hx hb d_Jt_sign_41 rfl (lv_at hl 2 rfl) ?_
      refine gk_get (b := h0) (ci := 0) (v := .int kk) X in_Jt hP 0 rfl rfl 4 (by decide) k_306 rfl d_Jt_sign_42 ?_
      refine lv_iload hx hb d_Jt_sign_45 (lv_at hl 0 rfl) ?_
      refine lv_i2b hx hb d_Jt_sign_47 rfl ?_
      refine lv_topi (fun x107 ex107 => ?_)
      refine va_bast hx hb X.2.2.2.2.2.1.1 hP hD hS 1 1 rfl rfl (i := kk) (gk_k0 hk c106) d_Jt_sign_48 (fun H locs hP hD hS => ?_)
      obtain ⟨f108, ef108⟩ : ∃ g, g = upd ff (Int32.toNatClampNeg kk) (vp_nar .byte x107) := ⟨_, rfl⟩
      rw [← ef108] at hP hD
      have hP : va_P E.1 gk_cl [(h0, .inr (0, [.ref q1, .ref q2, .ref q7, .ref q8, .int kk, .null])), (q1, .inl (E.2.1 1, 3000, .inl f108))] H := hP
      have hD : va_D A [(h0, .inr (0, [.ref q1, .ref q2, .ref q7, .ref q8, .int kk, .null])), (q1, .inl (E.2.1 1, 3000, .inl f108))] := hD
      refine lv_aload_n hx hb d_Jt_sign_49 rfl (lv_at hl 2 rfl) ?_
      refine lv_dup hx hb d_Jt_sign_50 rfl ?_
      refine gk_get (b := h0) (ci := 0) (v := .int kk) X in_Jt hP 0 rfl rfl 4 (by decide) k_306 rfl d_Jt_sign_51 ?_
      refine lv_iconst (v := 1) hx hb d_Jt_sign_54 (by decide) ?_
      refine lv_iadd hx hb d_Jt_sign_55 ?_
      refine lv_topi (fun x109 ex109 => ?_)
      refine gk_put (b := h0) (ci := 0) (v := .int x109) (ty := t_Jt 4) (ws' := [(h0, .inr (0, [.ref q1, .ref q2, .ref q7, .ref q8, .int x109, .null])), (q1, .inl (E.2.1 1, 3000, .inl f108))]) X in_Jt t_Jt t_Jt_ok n_Jt hP hD hS 0 rfl rfl 4 (by decide) k_306 (Or.inl rfl) (t_Jt_ok 4 (by decide)) rfl rfl (Nat.le_of_ble_eq_true rfl) d_Jt_sign_56 rfl (fun H locs hP hD hS => ?_)
      refine lv_iinc (v := 48) (lv' := [(3, .int 48), (4, .int x103), (0, .ref h0), (1, .long cc)]) hx hb d_Jt_sign_59 hl (k := 1) rfl (by decide) (by decide) rfl (fun ls hl => ?_)
      refine lv_goto (tgt := 3) hx hb d_Jt_sign_62 (by decide) ?_
      exact l_Jt_sign_7 l E h0 q1 q2 q7 q8 cc X x109 f108 _ _ _ (by rw [ex109]; exact gk_k2 hk c106) (lv_sub hl [0, 2, 3] rfl) hP hD hS

set_option maxHeartbeats 4000000 in
set_option maxRecDepth 100000 in
theorem c_Jt_sign (l : Launch) (E : gk_E) (h0 : Nat) (q1 : Nat) (q2 : Nat) (q7 : Nat) (q8 : Nat) (cc : Int64) (sz : Nat) : gk_M l E y_Jt_sign b_Jt_sign 5 (none) 1 0 0 [.ref h0, .long cc] [(h0, .inr (0, [.ref q1, .ref q2, .ref q7, .ref q8, .int 0, .null])), (q1, .inl (E.2.1 1, 3000, .inl (fun _ => 0)))] sz (fun r w => r = none ∧ w = []) := by
  refine gk_met (by decide) (Nat.le_of_ble_eq_true rfl) ?_
  intro p e s m below meth c A ls X hl hP hD hS
  have hx := X.1
  have hb := X.2.1
  have hown := X.2.2.2.1
  have hts := X.2.2.2.2.1
  have hZ := X.2.2.2.2.2.2.1
  have hr := X.2.2.2.2.2.2.2.2.1
  have hlocks : meth.locks = false := X.2.2.2.2.2.2.2.2.2.1
  have hl : lv_has ls 5 [(0, .ref h0), (1, .long cc)] := hl
  refine lv_bipush (v := 56) hx hb d_Jt_sign_0 (by decide) ?_
  refine lv_istore_n (lv' := [(3, .int 56), (0, .ref h0), (1, .long cc)]) hx hb d_Jt_sign_2 rfl hl (by decide) rfl (fun ls hl => ?_)
  exact l_Jt_sign_8 l E h0 q1 q2 q7 q8 cc X 0 (fun _ => 0) _ _ _ (by decide) (lv_sub hl [0, 1, 2] rfl) hP hD hS

set_option maxHeartbeats 4000000 in
set_option maxRecDepth 100000 in
theorem l_Mo_sign_0 {p : Program} {e : Env} {s : State} {m : MethodId} {below : List Frame} {meth : Method} {c : Code} {A : Nat → Prop} (l : Launch) (E : gk_E) (h0 : Nat) (q1 : Nat) (q2 : Nat) (q3 : Nat) (q4 : Nat) (q5 : Nat) (q6 : Nat) (q7 : Nat) (q8 : Nat) (q9 : Nat) (q10 : Nat) (q11 : Nat) (q12 : Nat) (q13 : Nat) (q14 : Nat) (q15 : Nat) (q16 : Nat) (q17 : Nat) (q18 : Nat) (q19 : Nat) (q20 : Nat) (q21 : Nat) (q22 : Nat) (q23 : Nat) (q24 : Nat) (q25 : Nat) (q26 : Nat) (q27 : Nat) (q28 : Nat) (q29 : Nat) (q30 : Nat) (q31 : Nat) (q32 : Nat) (q33 : Nat) (q34 : Nat) (q35 : Nat) (q36 : Nat) (q37 : Nat) (q38 : Nat) (q39 : Nat) (q40 : Nat) (q41 : Nat) (q42 : Nat) (q43 : Nat) (q44 : Nat) (q45 : Nat) (q46 : Nat) (q47 : Nat) (q48 : Nat) (q49 : Nat) (q50 : Nat) (q51 : Nat) (q52 : Nat) (q53 : Nat) (q54 : Nat) (cc : Int64) (X : gk_X E p s m ([.ref h0, .long cc] : List Value).toArray meth c y_Mo_sign b_Mo_sign 5 (none) A) : ∀ (kk : Int32) (ff : Nat → Int32) (H : Heap) (locs : List Loc) (ls : Array Slot), ¬ kk < 0 → lv_has ls 5 [(3, .int (-8)), (0, .ref h0), (1, .long cc)] → va_P E.1 gk_cl [(h0, .inr (10, [.int 0, .ref q1, .ref q2, .int kk, .ref q3, .ref q4, .ref q5, .ref q6, .ref q7, .ref q8, .ref q9, .ref q10, .ref q11, .ref q12, .ref q13, .ref q14, .ref q15, .ref q16, .ref q17, .int 0, .int 0, .int 0, .int 0, .ref q18, .ref q19, .ref q20, .ref q21, .int 0, .int 0, .ref q22, .ref q23, .int 0, .int 0, .int 0, .int 0, .int 0, .int 0, .int 0, .int 0, .ref q24, .int 0, .int 0, .int 0, .int 0, .ref q25, .ref q26, .ref q27, .ref q28, .ref q29, .ref q30, .ref q31, .ref q32, .int 0, .int 0, .ref q33, .ref q34, .ref q35, .int 0, .ref q36, .ref q37, .ref q38, .ref q39, .ref q40, .ref q41, .ref q42, .ref q43, .ref q44, .int 0, .ref q45, .ref q46, .ref q47, .ref q48, .ref q49, .int 0, .ref q50, .ref q51, .ref q52, .int 0, .int 0, .ref q53, .ref q54])), (q2, .inl (E.2.1 0, 3000, .inl ff))] H → va_D A [(h0, .inr (10, [.int 0, .ref q1, .ref q2, .int kk, .ref q3, .ref q4, .ref q5, .ref q6, .ref q7, .ref q8, .ref q9, .ref q10, .ref q11, .ref q12, .ref q13, .ref q14, .ref q15, .ref q16, .ref q17, .int 0, .int 0, .int 0, .int 0, .ref q18, .ref q19, .ref q20, .ref q21, .int 0, .int 0, .ref q22, .ref q23, .int 0, .int 0, .int 0, .int 0, .int 0, .int 0, .int 0, .int 0, .ref q24, .int 0, .int 0, .int 0, .int 0, .ref q25, .ref q26, .ref q27, .ref q28, .ref q29, .ref q30, .ref q31, .ref q32, .int 0, .int 0, .ref q33, .ref q34, .ref q35, .int 0, .ref q36, .ref q37, .ref q38, .ref q39, .ref q40, .ref q41, .ref q42, .ref q43, .ref q44, .int 0, .ref q45, .ref q46, .ref q47, .ref q48, .ref q49, .int 0, .ref q50, .ref q51, .ref q52, .int 0, .int 0, .ref q53, .ref q54])), (q2, .inl (E.2.1 0, 3000, .inl ff))] → va_S A s.heap H locs → W p l e (gk_rm 0 0 0) s m ([.ref h0, .long cc] : List Value).toArray below meth c H locs 0 0 (MQ below (gk_Q E A (fun r w => r = none ∧ w = [])) ([.ref h0, .long cc] : List Value).toArray s 0 0 A) (F0 m 8 ls []) := by
  intro kk ff H locs ls hk hl hP hD hS
  have hx := X.1
  have hb := X.2.1
  have hown := X.2.2.2.1
  have hts := X.2.2.2.2.1
  have hr := X.2.2.2.2.2.2.2.2.1
  have hlocks : meth.locks = false := X.2.2.2.2.2.2.2.2.2.1
  refine lv_iload_n hx hb d_Mo_sign_8 rfl (lv_at hl 0 rfl) ?_
  refine lv_if_lt (tgt := 80) hx hb d_Mo_sign_9 (by decide) (fun _ => ?_) (fun c9 => absurd (by decide) c9)
  have hP9 := hP.sub (ws' := []) [] rfl
  have hD9 := hD.sub (ws' := []) [] (by decide) rfl
  refine W.widen (k := 0) (n := 0) (Nat.le_of_ble_eq_true rfl) (Nat.le_of_ble_eq_true rfl) ?_
  exact W.vret hx hb hr (gk_q hP9 hD9 hS ⟨rfl, rfl⟩) hS.2.2 d_Mo_sign_80

set_option maxHeartbeats 4000000 in
set_option maxRecDepth 100000 in
theorem l_Mo_sign_1 {p : Program} {e : Env} {s : State} {m : MethodId} {below : List Frame} {meth : Method} {c : Code} {A : Nat → Prop} (l : Launch) (E : gk_E) (h0 : Nat) (q1 : Nat) (q2 : Nat) (q3 : Nat) (q4 : Nat) (q5 : Nat) (q6 : Nat) (q7 : Nat) (q8 : Nat) (q9 : Nat) (q10 : Nat) (q11 : Nat) (q12 : Nat) (q13 : Nat) (q14 : Nat) (q15 : Nat) (q16 : Nat) (q17 : Nat) (q18 : Nat) (q19 : Nat) (q20 : Nat) (q21 : Nat) (q22 : Nat) (q23 : Nat) (q24 : Nat) (q25 : Nat) (q26 : Nat) (q27 : Nat) (q28 : Nat) (q29 : Nat) (q30 : Nat) (q31 : Nat) (q32 : Nat) (q33 : Nat) (q34 : Nat) (q35 : Nat) (q36 : Nat) (q37 : Nat) (q38 : Nat) (q39 : Nat) (q40 : Nat) (q41 : Nat) (q42 : Nat) (q43 : Nat) (q44 : Nat) (q45 : Nat) (q46 : Nat) (q47 : Nat) (q48 : Nat) (q49 : Nat) (q50 : Nat) (q51 : Nat) (q52 : Nat) (q53 : Nat) (q54 : Nat) (cc : Int64) (X : gk_X E p s m ([.ref h0, .long cc] : List Value).toArray meth c y_Mo_sign b_Mo_sign 5 (none) A) : ∀ (kk : Int32) (ff : Nat → Int32) (H : Heap) (locs : List Loc) (ls : Array Slot), ¬ kk < 0 → lv_has ls 5 [(3, .int 0), (0, .ref h0), (1, .long cc)] → va_P E.1 gk_cl [(h0, .inr (10, [.int 0, .ref q1, .ref q2, .int kk, .ref q3, .ref q4, .ref q5, .ref q6, .ref q7, .ref q8, .ref q9, .ref q10, .ref q11, .ref q12, .ref q13, .ref q14, .ref q15, .ref q16, .ref q17, .int 0, .int 0, .int 0, .int 0, .ref q18, .ref q19, .ref q20, .ref q21, .int 0, .int 0, .ref q22, .ref q23, .int 0, .int 0, .int 0, .int 0, .int 0, .int 0, .int 0, .int 0, .ref q24, .int 0, .int 0, .int 0, .int 0, .ref q25, .ref q26, .ref q27, .ref q28, .ref q29, .ref q30, .ref q31, .ref q32, .int 0, .int 0, .ref q33, .ref q34, .ref q35, .int 0, .ref q36, .ref q37, .ref q38, .ref q39, .ref q40, .ref q41, .ref q42, .ref q43, .ref q44, .int 0, .ref q45, .ref q46, .ref q47, .ref q48, .ref q49, .int 0, .ref q50, .ref q51, .ref q52, .int 0, .int 0, .ref q53, .ref q54])), (q2, .inl (E.2.1 0, 3000, .inl ff))] H → va_D A [(h0, .inr (10, [.int 0, .ref q1, .ref q2, .int kk, .ref q3, .ref q4, .ref q5, .ref q6, .ref q7, .ref q8, .ref q9, .ref q10, .ref q11, .ref q12, .ref q13, .ref q14, .ref q15, .ref q16, .ref q17, .int 0, .int 0, .int 0, .int 0, .ref q18, .ref q19, .ref q20, .ref q21, .int 0, .int 0, .ref q22, .ref q23, .int 0, .int 0, .int 0, .int 0, .int 0, .int 0, .int 0, .int 0, .ref q24, .int 0, .int 0, .int 0, .int 0, .ref q25, .ref q26, .ref q27, .ref q28, .ref q29, .ref q30, .ref q31, .ref q32, .int 0, .int 0, .ref q33, .ref q34, .ref q35, .int 0, .ref q36, .ref q37, .ref q38, .ref q39, .ref q40, .ref q41, .ref q42, .ref q43, .ref q44, .int 0, .ref q45, .ref q46, .ref q47, .ref q48, .ref q49, .int 0, .ref q50, .ref q51, .ref q52, .int 0, .int 0, .ref q53, .ref q54])), (q2, .inl (E.2.1 0, 3000, .inl ff))] → va_S A s.heap H locs → W p l e (gk_rm 0 0 0) s m ([.ref h0, .long cc] : List Value).toArray below meth c H locs 0 0 (MQ below (gk_Q E A (fun r w => r = none ∧ w = [])) ([.ref h0, .long cc] : List Value).toArray s 0 0 A) (F0 m 8 ls []) := by
  intro kk ff H locs ls hk hl hP hD hS
  have hx := X.1
  have hb := X.2.1
  have hown := X.2.2.2.1
  have hts := X.2.2.2.2.1
  have hr := X.2.2.2.2.2.2.2.2.1
  have hlocks : meth.locks = false := X.2.2.2.2.2.2.2.2.2.1
  refine lv_iload_n hx hb d_Mo_sign_8 rfl (lv_at hl 0 rfl) ?_
  refine lv_if_lt (tgt := 80) hx hb d_Mo_sign_9 (by decide) (fun c9 => absurd c9 (by decide)) (fun _ => ?_)
  refine lv_lload_n hx hb d_Mo_sign_12 rfl (lv_at hl 2 rfl) ?_
  refine lv_iload_n hx hb d_Mo_sign_13 rfl (lv_at hl 0 rfl) ?_
  refine lv_lshr hx hb d_Mo_sign_14 rfl ?_
  refine lv_topl (fun x101 ex101 => ?_)
  refine lv_ldc2 (own := "JobTextModel") (v := 255) hx hb hown (hts _ k_1604) d_Mo_sign_15 ?_
  refine lv_land hx hb d_Mo_sign_18 ?_
  refine lv_topl (fun x102 ex102 => ?_)
  refine lv_l2i hx hb d_Mo_sign_19 rfl ?_
  refine lv_topi (fun x103 ex103 => ?_)
  refine lv_istore (lv' := [(4, .int x103), (3, .int 0), (0, .ref h0), (1, .long cc)]) hx hb d_Mo_sign_20 hl (by decide) rfl (fun ls hl => ?_)
  refine lv_iload hx hb d_Mo_sign_22 (lv_at hl 0 rfl) ?_
  refine lv_bipush (v := 10) hx hb d_Mo_sign_24 (by decide) ?_
  refine lv_icmp_eq (tgt := 43) hx hb d_Mo_sign_26 (by decide) (fun c104 => ?_) (fun c104 => ?_)
  · refine lv_aload_n hx hb d_Mo_sign_43 rfl (lv_at hl 2 rfl) ?_
    refine gk_get (b := h0) (ci := 10) (v := .int kk) X in_Mo hP 0 rfl rfl 3 (by decide) k_1358 rfl d_Mo_sign_44 ?_
    refine lv_sipush (v := 3000) hx hb d_Mo_sign_47 (by decide) ?_
    refine lv_icmp_ge (tgt := 74) hx hb d_Mo_sign_50 (by decide) (fun c105 => ?_) (fun c105 => ?_)
    · refine lv_iinc (v := (-8)) (lv' := [(3, .int (-8)), (4, .int x103), (0, .ref h0), (1, .long cc)]) hx hb d_Mo_sign_74 hl (k := 1) rfl (by decide) (by decide) rfl (fun ls hl => ?_)
      refine lv_goto (tgt := 8) hx hb d_Mo_sign_77 (by decide) ?_
      exact l_Mo_sign_0 l E h0 q1 q2 q3 q4 q5 q6 q7 q8 q9 q10 q11 q12 q13 q14 q15 q16 q17 q18 q19 q20 q21 q22 q23 q24 q25 q26 q27 q28 q29 q30 q31 q32 q33 q34 q35 q36 q37 q38 q39 q40 q41 q42 q43 q44 q45 q46 q47 q48 q49 q50 q51 q52 q53 q54 cc X kk ff _ _ _ hk (lv_sub hl [0, 2, 3] rfl) hP hD hS
    · refine lv_aload_n hx hb d_Mo_sign_53 rfl (lv_at hl 2 rfl) ?_
      refine gk_get (b := h0) (ci := 10) (v := .ref q2) X in_Mo hP 0 rfl rfl 2 (by decide) k_1357 rfl d_Mo_sign_54 ?_
      refine lv_aload_n hx hb d_Mo_sign_57 rfl (lv_at hl 2 rfl) ?_
      refine gk_get (b := h0) (ci := 10) (v := .int kk) X in_Mo hP 0 rfl rfl 3 (by decide) k_1358 rfl d_Mo_sign_58 ?_
      refine lv_iload hx hb d_Mo_sign_61 (lv_at hl 0 rfl) ?_
      refine va_iast hx hb X.2.2.2.2.2.1.1 hP hD hS 1 0 rfl rfl (i := kk) (gk_k0 hk c105) d_Mo_sign_63 (fun H locs hP hD hS => ?_)
      obtain ⟨f106, ef106⟩ : ∃ g, g = upd ff (Int32.toNatClampNeg kk) x103 := ⟨_, rfl⟩
      rw [← ef106] at hP hD
      have hP : va_P E.1 gk_cl [(h0, .inr (10, [.int 0, .ref q1, .ref q2, .int kk, .ref q3, .ref q4, .ref q5, .ref q6, .ref q7, .ref q8, .ref q9, .ref q10, .ref q11, .ref q12, .ref q13, .ref q14, .ref q15, .ref q16, .ref q17, .int 0, .int 0, .int 0, .int 0, .ref q18, .ref q19, .ref q20, .ref q21, .int 0, .int 0, .ref q22, .ref q23, .int 0, .int 0, .int 0, .int 0, .int 0, .int 0, .int 0, .int 0, .ref q24, .int 0, .int 0, .int 0, .int 0, .ref q25, .ref q26, .ref q27, .ref q28, .ref q29, .ref q30, .ref q31, .ref q32, .int 0, .int 0, .ref q33, .ref q34, .ref q35, .int 0, .ref q36, .ref q37, .ref q38, .ref q39, .ref q40, .ref q41, .ref q42, .ref q43, .ref q44, .int 0, .ref q45, .ref q46, .ref q47, .ref q48, .ref q49, .int 0, .ref q50, .ref q51, .ref q52, .int 0, .int 0, .ref q53, .ref q54])), (q2, .inl (E.2.1 0, 3000, .inl f106))] H := hP
      have hD : va_D A [(h0, .inr (10, [.int 0, .ref q1, .ref q2, .int kk, .ref q3, .ref q4, .ref q5, .ref q6, .ref q7, .ref q8, .ref q9, .ref q10, .ref q11, .ref q12, .ref q13, .ref q14, .ref q15, .ref q16, .ref q17, .int 0, .int 0, .int 0, .int 0, .ref q18, .ref q19, .ref q20, .ref q21, .int 0, .int 0, .ref q22, .ref q23, .int 0, .int 0, .int 0, .int 0, .int 0, .int 0, .int 0, .int 0, .ref q24, .int 0, .int 0, .int 0, .int 0, .ref q25, .ref q26, .ref q27, .ref q28, .ref q29, .ref q30, .ref q31, .ref q32, .int 0, .int 0, .ref q33, .ref q34, .ref q35, .int 0, .ref q36, .ref q37, .ref q38, .ref q39, .ref q40, .ref q41, .ref q42, .ref q43, .ref q44, .int 0, .ref q45, .ref q46, .ref q47, .ref q48, .ref q49, .int 0, .ref q50, .ref q51, .ref q52, .int 0, .int 0, .ref q53, .ref q54])), (q2, .inl (E.2.1 0, 3000, .inl f106))] := hD
      refine lv_aload_n hx hb d_Mo_sign_64 rfl (lv_at hl 2 rfl) ?_
      refine lv_dup hx hb d_Mo_sign_65 rfl ?_
      refine gk_get (b := h0) (ci := 10) (v := .int kk) X in_Mo hP 0 rfl rfl 3 (by decide) k_1358 rfl d_Mo_sign_66 ?_
      refine lv_iconst (v := 1) hx hb d_Mo_sign_69 (by decide) ?_
      refine lv_iadd hx hb d_Mo_sign_70 ?_
      refine lv_topi (fun x107 ex107 => ?_)
      refine gk_put (b := h0) (ci := 10) (v := .int x107) (ty := t_Mo 3) (ws' := [(h0, .inr (10, [.int 0, .ref q1, .ref q2, .int x107, .ref q3, .ref q4, .ref q5, .ref q6, .ref q7, .ref q8, .ref q9, .ref q10, .ref q11, .ref q12, .ref q13, .ref q14, .ref q15, .ref q16, .ref q17, .int 0, .int 0, .int 0, .int 0, .ref q18, .ref q19, .ref q20, .ref q21, .int 0, .int 0, .ref q22, .ref q23, .int 0, .int 0, .int 0, .int 0, .int 0, .int 0, .int 0, .int 0, .ref q24, .int 0, .int 0, .int 0, .int 0, .ref q25, .ref q26, .ref q27, .ref q28, .ref q29, .ref q30, .ref q31, .ref q32, .int 0, .int 0, .ref q33, .ref q34, .ref q35, .int 0, .ref q36, .ref q37, .ref q38, .ref q39, .ref q40, .ref q41, .ref q42, .ref q43, .ref q44, .int 0, .ref q45, .ref q46, .ref q47, .ref q48, .ref q49, .int 0, .ref q50, .ref q51, .ref q52, .int 0, .int 0, .ref q53, .ref q54])), (q2, .inl (E.2.1 0, 3000, .inl f106))]) X in_Mo t_Mo t_Mo_ok n_Mo hP hD hS 0 rfl rfl 3 (by decide) k_1358 (Or.inl rfl) (t_Mo_ok 3 (by decide)) rfl rfl (Nat.le_of_ble_eq_true rfl) d_Mo_sign_71 rfl (fun H locs hP hD hS => ?_)
      refine lv_iinc (v := (-8)) (lv' := [(3, .int (-8)), (4, .int x103), (0, .ref h0), (1, .long cc)]) hx hb d_Mo_sign_74 hl (k := 1) rfl (by decide) (by decide) rfl (fun ls hl => ?_)
      refine lv_goto (tgt := 8) hx hb d_Mo_sign_77 (by decide) ?_
      exact l_Mo_sign_0 l E h0 q1 q2 q3 q4 q5 q6 q7 q8 q9 q10 q11 q12 q13 q14 q15 q16 q17 q18 q19 q20 q21 q22 q23 q24 q25 q26 q27 q28 q29 q30 q31 q32 q33 q34 q35 q36 q37 q38 q39 q40 q41 q42 q43 q44 q45 q46 q47 q48 q49 q50 q51 q52 q53 q54 cc X x107 f106 _ _ _ (by rw [ex107]; exact gk_k2 hk c105) (lv_sub hl [0, 2, 3] rfl) hP hD hS
  · refine lv_iload hx hb d_Mo_sign_29 (lv_at hl 0 rfl) ?_
    refine lv_bipush (v := 32) hx hb d_Mo_sign_31 (by decide) ?_
    refine lv_icmp_lt (tgt := 74) hx hb d_Mo_sign_33 (by decide) (fun c108 => ?_) (fun c108 => ?_)
    · refine lv_iinc (v := (-8)) (lv' := [(3, .int (-8)), (4, .int x103), (0, .ref h0), (1, .long cc)]) hx hb d_Mo_sign_74 hl (k := 1) rfl (by decide) (by decide) rfl (fun ls hl => ?_)
      refine lv_goto (tgt := 8) hx hb d_Mo_sign_77 (by decide) ?_
      exact l_Mo_sign_0 l E h0 q1 q2 q3 q4 q5 q6 q7 q8 q9 q10 q11 q12 q13 q14 q15 q16 q17 q18 q19 q20 q21 q22 q23 q24 q25 q26 q27 q28 q29 q30 q31 q32 q33 q34 q35 q36 q37 q38 q39 q40 q41 q42 q43 q44 q45 q46 q47 q48 q49 q50 q51 q52 q53 q54 cc X kk ff _ _ _ hk (lv_sub hl [0, 2, 3] rfl) hP hD hS
    · refine lv_iload hx hb d_Mo_sign_36 (lv_at hl 0 rfl) ?_
      refine lv_bipush (v := 126) hx hb d_Mo_sign_38 (by decide) ?_
      refine lv_icmp_gt (tgt := 74) hx hb d_Mo_sign_40 (by decide) (fun c109 => ?_) (fun c109 => ?_)
      · refine lv_iinc (v := (-8)) (lv' := [(3, .int (-8)), (4, .int x103), (0, .ref h0), (1, .long cc)]) hx hb d_Mo_sign_74 hl (k := 1) rfl (by decide) (by decide) rfl (fun ls hl => ?_)
        refine lv_goto (tgt := 8) hx hb d_Mo_sign_77 (by decide) ?_
        exact l_Mo_sign_0 l E h0 q1 q2 q3 q4 q5 q6 q7 q8 q9 q10 q11 q12 q13 q14 q15 q16 q17 q18 q19 q20 q21 q22 q23 q24 q25 q26 q27 q28 q29 q30 q31 q32 q33 q34 q35 q36 q37 q38 q39 q40 q41 q42 q43 q44 q45 q46 q47 q48 q49 q50 q51 q52 q53 q54 cc X kk ff _ _ _ hk (lv_sub hl [0, 2, 3] rfl) hP hD hS
      · refine lv_aload_n hx hb d_Mo_sign_43 rfl (lv_at hl 2 rfl) ?_
        refine gk_get (b := h0) (ci := 10) (v := .int kk) X in_Mo hP 0 rfl rfl 3 (by decide) k_1358 rfl d_Mo_sign_44 ?_
        refine lv_sipush (v := 3000) hx hb d_Mo_sign_47 (by decide) ?_
        refine lv_icmp_ge (tgt := 74) hx hb d_Mo_sign_50 (by decide) (fun c110 => ?_) (fun c110 => ?_)
        · refine lv_iinc (v := (-8)) (lv' := [(3, .int (-8)), (4, .int x103), (0, .ref h0), (1, .long cc)]) hx hb d_Mo_sign_74 hl (k := 1) rfl (by decide) (by decide) rfl (fun ls hl => ?_)
          refine lv_goto (tgt := 8) hx hb d_Mo_sign_77 (by decide) ?_
          exact l_Mo_sign_0 l E h0 q1 q2 q3 q4 q5 q6 q7 q8 q9 q10 q11 q12 q13 q14 q15 q16 q17 q18 q19 q20 q21 q22 q23 q24 q25 q26 q27 q28 q29 q30 q31 q32 q33 q34 q35 q36 q37 q38 q39 q40 q41 q42 q43 q44 q45 q46 q47 q48 q49 q50 q51 q52 q53 q54 cc X kk ff _ _ _ hk (lv_sub hl [0, 2, 3] rfl) hP hD hS
        · refine lv_aload_n hx hb d_Mo_sign_53 rfl (lv_at hl 2 rfl) ?_
          refine gk_get (b := h0) (ci := 10) (v := .ref q2) X in_Mo hP 0 rfl rfl 2 (by decide) k_1357 rfl d_Mo_sign_54 ?_
          refine lv_aload_n hx hb d_Mo_sign_57 rfl (lv_at hl 2 rfl) ?_
          refine gk_get (b := h0) (ci := 10) (v := .int kk) X in_Mo hP 0 rfl rfl 3 (by decide) k_1358 rfl d_Mo_sign_58 ?_
          refine lv_iload hx hb d_Mo_sign_61 (lv_at hl 0 rfl) ?_
          refine va_iast hx hb X.2.2.2.2.2.1.1 hP hD hS 1 0 rfl rfl (i := kk) (gk_k0 hk c110) d_Mo_sign_63 (fun H locs hP hD hS => ?_)
          obtain ⟨f111, ef111⟩ : ∃ g, g = upd ff (Int32.toNatClampNeg kk) x103 := ⟨_, rfl⟩
          rw [← ef111] at hP hD
          have hP : va_P E.1 gk_cl [(h0, .inr (10, [.int 0, .ref q1, .ref q2, .int kk, .ref q3, .ref q4, .ref q5, .ref q6, .ref q7, .ref q8, .ref q9, .ref q10, .ref q11, .ref q12, .ref q13, .ref q14, .ref q15, .ref q16, .ref q17, .int 0, .int 0, .int 0, .int 0, .ref q18, .ref q19, .ref q20, .ref q21, .int 0, .int 0, .ref q22, .ref q23, .int 0, .int 0, .int 0, .int 0, .int 0, .int 0, .int 0, .int 0, .ref q24, .int 0, .int 0, .int 0, .int 0, .ref q25, .ref q26, .ref q27, .ref q28, .ref q29, .ref q30, .ref q31, .ref q32, .int 0, .int 0, .ref q33, .ref q34, .ref q35, .int 0, .ref q36, .ref q37, .ref q38, .ref q39, .ref q40, .ref q41, .ref q42, .ref q43, .ref q44, .int 0, .ref q45, .ref q46, .ref q47, .ref q48, .ref q49, .int 0, .ref q50, .ref q51, .ref q52, .int 0, .int 0, .ref q53, .ref q54])), (q2, .inl (E.2.1 0, 3000, .inl f111))] H := hP
          have hD : va_D A [(h0, .inr (10, [.int 0, .ref q1, .ref q2, .int kk, .ref q3, .ref q4, .ref q5, .ref q6, .ref q7, .ref q8, .ref q9, .ref q10, .ref q11, .ref q12, .ref q13, .ref q14, .ref q15, .ref q16, .ref q17, .int 0, .int 0, .int 0, .int 0, .ref q18, .ref q19, .ref q20, .ref q21, .int 0, .int 0, .ref q22, .ref q23, .int 0, .int 0, .int 0, .int 0, .int 0, .int 0, .int 0, .int 0, .ref q24, .int 0, .int 0, .int 0, .int 0, .ref q25, .ref q26, .ref q27, .ref q28, .ref q29, .ref q30, .ref q31, .ref q32, .int 0, .int 0, .ref q33, .ref q34, .ref q35, .int 0, .ref q36, .ref q37, .ref q38, .ref q39, .ref q40, .ref q41, .ref q42, .ref q43, .ref q44, .int 0, .ref q45, .ref q46, .ref q47, .ref q48, .ref q49, .int 0, .ref q50, .ref q51, .ref q52, .int 0, .int 0, .ref q53, .ref q54])), (q2, .inl (E.2.1 0, 3000, .inl f111))] := hD
          refine lv_aload_n hx hb d_Mo_sign_64 rfl (lv_at hl 2 rfl) ?_
          refine lv_dup hx hb d_Mo_sign_65 rfl ?_
          refine gk_get (b := h0) (ci := 10) (v := .int kk) X in_Mo hP 0 rfl rfl 3 (by decide) k_1358 rfl d_Mo_sign_66 ?_
          refine lv_iconst (v := 1) hx hb d_Mo_sign_69 (by decide) ?_
          refine lv_iadd hx hb d_Mo_sign_70 ?_
          refine lv_topi (fun x112 ex112 => ?_)
          refine gk_put (b := h0) (ci := 10) (v := .int x112) (ty := t_Mo 3) (ws' := [(h0, .inr (10, [.int 0, .ref q1, .ref q2, .int x112, .ref q3, .ref q4, .ref q5, .ref q6, .ref q7, .ref q8, .ref q9, .ref q10, .ref q11, .ref q12, .ref q13, .ref q14, .ref q15, .ref q16, .ref q17, .int 0, .int 0, .int 0, .int 0, .ref q18, .ref q19, .ref q20, .ref q21, .int 0, .int 0, .ref q22, .ref q23, .int 0, .int 0, .int 0, .int 0, .int 0, .int 0, .int 0, .int 0, .ref q24, .int 0, .int 0, .int 0, .int 0, .ref q25, .ref q26, .ref q27, .ref q28, .ref q29, .ref q30, .ref q31, .ref q32, .int 0, .int 0, .ref q33, .ref q34, .ref q35, .int 0, .ref q36, .ref q37, .ref q38, .ref q39, .ref q40, .ref q41, .ref q42, .ref q43, .ref q44, .int 0, .ref q45, .ref q46, .ref q47, .ref q48, .ref q49, .int 0, .ref q50, .ref q51, .ref q52, .int 0, .int 0, .ref q53, .ref q54])), (q2, .inl (E.2.1 0, 3000, .inl f111))]) X in_Mo t_Mo t_Mo_ok n_Mo hP hD hS 0 rfl rfl 3 (by decide) k_1358 (Or.inl rfl) (t_Mo_ok 3 (by decide)) rfl rfl (Nat.le_of_ble_eq_true rfl) d_Mo_sign_71 rfl (fun H locs hP hD hS => ?_)
          refine lv_iinc (v := (-8)) (lv' := [(3, .int (-8)), (4, .int x103), (0, .ref h0), (1, .long cc)]) hx hb d_Mo_sign_74 hl (k := 1) rfl (by decide) (by decide) rfl (fun ls hl => ?_)
          refine lv_goto (tgt := 8) hx hb d_Mo_sign_77 (by decide) ?_
          exact l_Mo_sign_0 l E h0 q1 q2 q3 q4 q5 q6 q7 q8 q9 q10 q11 q12 q13 q14 q15 q16 q17 q18 q19 q20 q21 q22 q23 q24 q25 q26 q27 q28 q29 q30 q31 q32 q33 q34 q35 q36 q37 q38 q39 q40 q41 q42 q43 q44 q45 q46 q47 q48 q49 q50 q51 q52 q53 q54 cc X x112 f111 _ _ _ (by rw [ex112]; exact gk_k2 hk c110) (lv_sub hl [0, 2, 3] rfl) hP hD hS

set_option maxHeartbeats 4000000 in
set_option maxRecDepth 100000 in
theorem l_Mo_sign_2 {p : Program} {e : Env} {s : State} {m : MethodId} {below : List Frame} {meth : Method} {c : Code} {A : Nat → Prop} (l : Launch) (E : gk_E) (h0 : Nat) (q1 : Nat) (q2 : Nat) (q3 : Nat) (q4 : Nat) (q5 : Nat) (q6 : Nat) (q7 : Nat) (q8 : Nat) (q9 : Nat) (q10 : Nat) (q11 : Nat) (q12 : Nat) (q13 : Nat) (q14 : Nat) (q15 : Nat) (q16 : Nat) (q17 : Nat) (q18 : Nat) (q19 : Nat) (q20 : Nat) (q21 : Nat) (q22 : Nat) (q23 : Nat) (q24 : Nat) (q25 : Nat) (q26 : Nat) (q27 : Nat) (q28 : Nat) (q29 : Nat) (q30 : Nat) (q31 : Nat) (q32 : Nat) (q33 : Nat) (q34 : Nat) (q35 : Nat) (q36 : Nat) (q37 : Nat) (q38 : Nat) (q39 : Nat) (q40 : Nat) (q41 : Nat) (q42 : Nat) (q43 : Nat) (q44 : Nat) (q45 : Nat) (q46 : Nat) (q47 : Nat) (q48 : Nat) (q49 : Nat) (q50 : Nat) (q51 : Nat) (q52 : Nat) (q53 : Nat) (q54 : Nat) (cc : Int64) (X : gk_X E p s m ([.ref h0, .long cc] : List Value).toArray meth c y_Mo_sign b_Mo_sign 5 (none) A) : ∀ (kk : Int32) (ff : Nat → Int32) (H : Heap) (locs : List Loc) (ls : Array Slot), ¬ kk < 0 → lv_has ls 5 [(3, .int 8), (0, .ref h0), (1, .long cc)] → va_P E.1 gk_cl [(h0, .inr (10, [.int 0, .ref q1, .ref q2, .int kk, .ref q3, .ref q4, .ref q5, .ref q6, .ref q7, .ref q8, .ref q9, .ref q10, .ref q11, .ref q12, .ref q13, .ref q14, .ref q15, .ref q16, .ref q17, .int 0, .int 0, .int 0, .int 0, .ref q18, .ref q19, .ref q20, .ref q21, .int 0, .int 0, .ref q22, .ref q23, .int 0, .int 0, .int 0, .int 0, .int 0, .int 0, .int 0, .int 0, .ref q24, .int 0, .int 0, .int 0, .int 0, .ref q25, .ref q26, .ref q27, .ref q28, .ref q29, .ref q30, .ref q31, .ref q32, .int 0, .int 0, .ref q33, .ref q34, .ref q35, .int 0, .ref q36, .ref q37, .ref q38, .ref q39, .ref q40, .ref q41, .ref q42, .ref q43, .ref q44, .int 0, .ref q45, .ref q46, .ref q47, .ref q48, .ref q49, .int 0, .ref q50, .ref q51, .ref q52, .int 0, .int 0, .ref q53, .ref q54])), (q2, .inl (E.2.1 0, 3000, .inl ff))] H → va_D A [(h0, .inr (10, [.int 0, .ref q1, .ref q2, .int kk, .ref q3, .ref q4, .ref q5, .ref q6, .ref q7, .ref q8, .ref q9, .ref q10, .ref q11, .ref q12, .ref q13, .ref q14, .ref q15, .ref q16, .ref q17, .int 0, .int 0, .int 0, .int 0, .ref q18, .ref q19, .ref q20, .ref q21, .int 0, .int 0, .ref q22, .ref q23, .int 0, .int 0, .int 0, .int 0, .int 0, .int 0, .int 0, .int 0, .ref q24, .int 0, .int 0, .int 0, .int 0, .ref q25, .ref q26, .ref q27, .ref q28, .ref q29, .ref q30, .ref q31, .ref q32, .int 0, .int 0, .ref q33, .ref q34, .ref q35, .int 0, .ref q36, .ref q37, .ref q38, .ref q39, .ref q40, .ref q41, .ref q42, .ref q43, .ref q44, .int 0, .ref q45, .ref q46, .ref q47, .ref q48, .ref q49, .int 0, .ref q50, .ref q51, .ref q52, .int 0, .int 0, .ref q53, .ref q54])), (q2, .inl (E.2.1 0, 3000, .inl ff))] → va_S A s.heap H locs → W p l e (gk_rm 0 0 0) s m ([.ref h0, .long cc] : List Value).toArray below meth c H locs 0 0 (MQ below (gk_Q E A (fun r w => r = none ∧ w = [])) ([.ref h0, .long cc] : List Value).toArray s 0 0 A) (F0 m 8 ls []) := by
  intro kk ff H locs ls hk hl hP hD hS
  have hx := X.1
  have hb := X.2.1
  have hown := X.2.2.2.1
  have hts := X.2.2.2.2.1
  have hr := X.2.2.2.2.2.2.2.2.1
  have hlocks : meth.locks = false := X.2.2.2.2.2.2.2.2.2.1
  refine lv_iload_n hx hb d_Mo_sign_8 rfl (lv_at hl 0 rfl) ?_
  refine lv_if_lt (tgt := 80) hx hb d_Mo_sign_9 (by decide) (fun c9 => absurd c9 (by decide)) (fun _ => ?_)
  refine lv_lload_n hx hb d_Mo_sign_12 rfl (lv_at hl 2 rfl) ?_
  refine lv_iload_n hx hb d_Mo_sign_13 rfl (lv_at hl 0 rfl) ?_
  refine lv_lshr hx hb d_Mo_sign_14 rfl ?_
  refine lv_topl (fun x101 ex101 => ?_)
  refine lv_ldc2 (own := "JobTextModel") (v := 255) hx hb hown (hts _ k_1604) d_Mo_sign_15 ?_
  refine lv_land hx hb d_Mo_sign_18 ?_
  refine lv_topl (fun x102 ex102 => ?_)
  refine lv_l2i hx hb d_Mo_sign_19 rfl ?_
  refine lv_topi (fun x103 ex103 => ?_)
  refine lv_istore (lv' := [(4, .int x103), (3, .int 8), (0, .ref h0), (1, .long cc)]) hx hb d_Mo_sign_20 hl (by decide) rfl (fun ls hl => ?_)
  refine lv_iload hx hb d_Mo_sign_22 (lv_at hl 0 rfl) ?_
  refine lv_bipush (v := 10) hx hb d_Mo_sign_24 (by decide) ?_
  refine lv_icmp_eq (tgt := 43) hx hb d_Mo_sign_26 (by decide) (fun c104 => ?_) (fun c104 => ?_)
  · refine lv_aload_n hx hb d_Mo_sign_43 rfl (lv_at hl 2 rfl) ?_
    refine gk_get (b := h0) (ci := 10) (v := .int kk) X in_Mo hP 0 rfl rfl 3 (by decide) k_1358 rfl d_Mo_sign_44 ?_
    refine lv_sipush (v := 3000) hx hb d_Mo_sign_47 (by decide) ?_
    refine lv_icmp_ge (tgt := 74) hx hb d_Mo_sign_50 (by decide) (fun c105 => ?_) (fun c105 => ?_)
    · refine lv_iinc (v := 0) (lv' := [(3, .int 0), (4, .int x103), (0, .ref h0), (1, .long cc)]) hx hb d_Mo_sign_74 hl (k := 1) rfl (by decide) (by decide) rfl (fun ls hl => ?_)
      refine lv_goto (tgt := 8) hx hb d_Mo_sign_77 (by decide) ?_
      exact l_Mo_sign_1 l E h0 q1 q2 q3 q4 q5 q6 q7 q8 q9 q10 q11 q12 q13 q14 q15 q16 q17 q18 q19 q20 q21 q22 q23 q24 q25 q26 q27 q28 q29 q30 q31 q32 q33 q34 q35 q36 q37 q38 q39 q40 q41 q42 q43 q44 q45 q46 q47 q48 q49 q50 q51 q52 q53 q54 cc X kk ff _ _ _ hk (lv_sub hl [0, 2, 3] rfl) hP hD hS
    · refine lv_aload_n hx hb d_Mo_sign_53 rfl (lv_at hl 2 rfl) ?_
      refine gk_get (b := h0) (ci := 10) (v := .ref q2) X in_Mo hP 0 rfl rfl 2 (by decide) k_1357 rfl d_Mo_sign_54 ?_
      refine lv_aload_n hx hb d_Mo_sign_57 rfl (lv_at hl 2 rfl) ?_
      refine gk_get (b := h0) (ci := 10) (v := .int kk) X in_Mo hP 0 rfl rfl 3 (by decide) k_1358 rfl d_Mo_sign_58 ?_
      refine lv_iload hx hb d_Mo_sign_61 (lv_at hl 0 rfl) ?_
      refine va_iast hx hb X.2.2.2.2.2.1.1 hP hD hS 1 0 rfl rfl (i := kk) (gk_k0 hk c105) d_Mo_sign_63 (fun H locs hP hD hS => ?_)
      obtain ⟨f106, ef106⟩ : ∃ g, g = upd ff (Int32.toNatClampNeg kk) x103 := ⟨_, rfl⟩
      rw [← ef106] at hP hD
      have hP : va_P E.1 gk_cl [(h0, .inr (10, [.int 0, .ref q1, .ref q2, .int kk, .ref q3, .ref q4, .ref q5, .ref q6, .ref q7, .ref q8, .ref q9, .ref q10, .ref q11, .ref q12, .ref q13, .ref q14, .ref q15, .ref q16, .ref q17, .int 0, .int 0, .int 0, .int 0, .ref q18, .ref q19, .ref q20, .ref q21, .int 0, .int 0, .ref q22, .ref q23, .int 0, .int 0, .int 0, .int 0, .int 0, .int 0, .int 0, .int 0, .ref q24, .int 0, .int 0, .int 0, .int 0, .ref q25, .ref q26, .ref q27, .ref q28, .ref q29, .ref q30, .ref q31, .ref q32, .int 0, .int 0, .ref q33, .ref q34, .ref q35, .int 0, .ref q36, .ref q37, .ref q38, .ref q39, .ref q40, .ref q41, .ref q42, .ref q43, .ref q44, .int 0, .ref q45, .ref q46, .ref q47, .ref q48, .ref q49, .int 0, .ref q50, .ref q51, .ref q52, .int 0, .int 0, .ref q53, .ref q54])), (q2, .inl (E.2.1 0, 3000, .inl f106))] H := hP
      have hD : va_D A [(h0, .inr (10, [.int 0, .ref q1, .ref q2, .int kk, .ref q3, .ref q4, .ref q5, .ref q6, .ref q7, .ref q8, .ref q9, .ref q10, .ref q11, .ref q12, .ref q13, .ref q14, .ref q15, .ref q16, .ref q17, .int 0, .int 0, .int 0, .int 0, .ref q18, .ref q19, .ref q20, .ref q21, .int 0, .int 0, .ref q22, .ref q23, .int 0, .int 0, .int 0, .int 0, .int 0, .int 0, .int 0, .int 0, .ref q24, .int 0, .int 0, .int 0, .int 0, .ref q25, .ref q26, .ref q27, .ref q28, .ref q29, .ref q30, .ref q31, .ref q32, .int 0, .int 0, .ref q33, .ref q34, .ref q35, .int 0, .ref q36, .ref q37, .ref q38, .ref q39, .ref q40, .ref q41, .ref q42, .ref q43, .ref q44, .int 0, .ref q45, .ref q46, .ref q47, .ref q48, .ref q49, .int 0, .ref q50, .ref q51, .ref q52, .int 0, .int 0, .ref q53, .ref q54])), (q2, .inl (E.2.1 0, 3000, .inl f106))] := hD
      refine lv_aload_n hx hb d_Mo_sign_64 rfl (lv_at hl 2 rfl) ?_
      refine lv_dup hx hb d_Mo_sign_65 rfl ?_
      refine gk_get (b := h0) (ci := 10) (v := .int kk) X in_Mo hP 0 rfl rfl 3 (by decide) k_1358 rfl d_Mo_sign_66 ?_
      refine lv_iconst (v := 1) hx hb d_Mo_sign_69 (by decide) ?_
      refine lv_iadd hx hb d_Mo_sign_70 ?_
      refine lv_topi (fun x107 ex107 => ?_)
      refine gk_put (b := h0) (ci := 10) (v := .int x107) (ty := t_Mo 3) (ws' := [(h0, .inr (10, [.int 0, .ref q1, .ref q2, .int x107, .ref q3, .ref q4, .ref q5, .ref q6, .ref q7, .ref q8, .ref q9, .ref q10, .ref q11, .ref q12, .ref q13, .ref q14, .ref q15, .ref q16, .ref q17, .int 0, .int 0, .int 0, .int 0, .ref q18, .ref q19, .ref q20, .ref q21, .int 0, .int 0, .ref q22, .ref q23, .int 0, .int 0, .int 0, .int 0, .int 0, .int 0, .int 0, .int 0, .ref q24, .int 0, .int 0, .int 0, .int 0, .ref q25, .ref q26, .ref q27, .ref q28, .ref q29, .ref q30, .ref q31, .ref q32, .int 0, .int 0, .ref q33, .ref q34, .ref q35, .int 0, .ref q36, .ref q37, .ref q38, .ref q39, .ref q40, .ref q41, .ref q42, .ref q43, .ref q44, .int 0, .ref q45, .ref q46, .ref q47, .ref q48, .ref q49, .int 0, .ref q50, .ref q51, .ref q52, .int 0, .int 0, .ref q53, .ref q54])), (q2, .inl (E.2.1 0, 3000, .inl f106))]) X in_Mo t_Mo t_Mo_ok n_Mo hP hD hS 0 rfl rfl 3 (by decide) k_1358 (Or.inl rfl) (t_Mo_ok 3 (by decide)) rfl rfl (Nat.le_of_ble_eq_true rfl) d_Mo_sign_71 rfl (fun H locs hP hD hS => ?_)
      refine lv_iinc (v := 0) (lv' := [(3, .int 0), (4, .int x103), (0, .ref h0), (1, .long cc)]) hx hb d_Mo_sign_74 hl (k := 1) rfl (by decide) (by decide) rfl (fun ls hl => ?_)
      refine lv_goto (tgt := 8) hx hb d_Mo_sign_77 (by decide) ?_
      exact l_Mo_sign_1 l E h0 q1 q2 q3 q4 q5 q6 q7 q8 q9 q10 q11 q12 q13 q14 q15 q16 q17 q18 q19 q20 q21 q22 q23 q24 q25 q26 q27 q28 q29 q30 q31 q32 q33 q34 q35 q36 q37 q38 q39 q40 q41 q42 q43 q44 q45 q46 q47 q48 q49 q50 q51 q52 q53 q54 cc X x107 f106 _ _ _ (by rw [ex107]; exact gk_k2 hk c105) (lv_sub hl [0, 2, 3] rfl) hP hD hS
  · refine lv_iload hx hb d_Mo_sign_29 (lv_at hl 0 rfl) ?_
    refine lv_bipush (v := 32) hx hb d_Mo_sign_31 (by decide) ?_
    refine lv_icmp_lt (tgt := 74) hx hb d_Mo_sign_33 (by decide) (fun c108 => ?_) (fun c108 => ?_)
    · refine lv_iinc (v := 0) (lv' := [(3, .int 0), (4, .int x103), (0, .ref h0), (1, .long cc)]) hx hb d_Mo_sign_74 hl (k := 1) rfl (by decide) (by decide) rfl (fun ls hl => ?_)
      refine lv_goto (tgt := 8) hx hb d_Mo_sign_77 (by decide) ?_
      exact l_Mo_sign_1 l E h0 q1 q2 q3 q4 q5 q6 q7 q8 q9 q10 q11 q12 q13 q14 q15 q16 q17 q18 q19 q20 q21 q22 q23 q24 q25 q26 q27 q28 q29 q30 q31 q32 q33 q34 q35 q36 q37 q38 q39 q40 q41 q42 q43 q44 q45 q46 q47 q48 q49 q50 q51 q52 q53 q54 cc X kk ff _ _ _ hk (lv_sub hl [0, 2, 3] rfl) hP hD hS
    · refine lv_iload hx hb d_Mo_sign_36 (lv_at hl 0 rfl) ?_
      refine lv_bipush (v := 126) hx hb d_Mo_sign_38 (by decide) ?_
      refine lv_icmp_gt (tgt := 74) hx hb d_Mo_sign_40 (by decide) (fun c109 => ?_) (fun c109 => ?_)
      · refine lv_iinc (v := 0) (lv' := [(3, .int 0), (4, .int x103), (0, .ref h0), (1, .long cc)]) hx hb d_Mo_sign_74 hl (k := 1) rfl (by decide) (by decide) rfl (fun ls hl => ?_)
        refine lv_goto (tgt := 8) hx hb d_Mo_sign_77 (by decide) ?_
        exact l_Mo_sign_1 l E h0 q1 q2 q3 q4 q5 q6 q7 q8 q9 q10 q11 q12 q13 q14 q15 q16 q17 q18 q19 q20 q21 q22 q23 q24 q25 q26 q27 q28 q29 q30 q31 q32 q33 q34 q35 q36 q37 q38 q39 q40 q41 q42 q43 q44 q45 q46 q47 q48 q49 q50 q51 q52 q53 q54 cc X kk ff _ _ _ hk (lv_sub hl [0, 2, 3] rfl) hP hD hS
      · refine lv_aload_n hx hb d_Mo_sign_43 rfl (lv_at hl 2 rfl) ?_
        refine gk_get (b := h0) (ci := 10) (v := .int kk) X in_Mo hP 0 rfl rfl 3 (by decide) k_1358 rfl d_Mo_sign_44 ?_
        refine lv_sipush (v := 3000) hx hb d_Mo_sign_47 (by decide) ?_
        refine lv_icmp_ge (tgt := 74) hx hb d_Mo_sign_50 (by decide) (fun c110 => ?_) (fun c110 => ?_)
        · refine lv_iinc (v := 0) (lv' := [(3, .int 0), (4, .int x103), (0, .ref h0), (1, .long cc)]) hx hb d_Mo_sign_74 hl (k := 1) rfl (by decide) (by decide) rfl (fun ls hl => ?_)
          refine lv_goto (tgt := 8) hx hb d_Mo_sign_77 (by decide) ?_
          exact l_Mo_sign_1 l E h0 q1 q2 q3 q4 q5 q6 q7 q8 q9 q10 q11 q12 q13 q14 q15 q16 q17 q18 q19 q20 q21 q22 q23 q24 q25 q26 q27 q28 q29 q30 q31 q32 q33 q34 q35 q36 q37 q38 q39 q40 q41 q42 q43 q44 q45 q46 q47 q48 q49 q50 q51 q52 q53 q54 cc X kk ff _ _ _ hk (lv_sub hl [0, 2, 3] rfl) hP hD hS
        · refine lv_aload_n hx hb d_Mo_sign_53 rfl (lv_at hl 2 rfl) ?_
          refine gk_get (b := h0) (ci := 10) (v := .ref q2) X in_Mo hP 0 rfl rfl 2 (by decide) k_1357 rfl d_Mo_sign_54 ?_
          refine lv_aload_n hx hb d_Mo_sign_57 rfl (lv_at hl 2 rfl) ?_
          refine gk_get (b := h0) (ci := 10) (v := .int kk) X in_Mo hP 0 rfl rfl 3 (by decide) k_1358 rfl d_Mo_sign_58 ?_
          refine lv_iload hx hb d_Mo_sign_61 (lv_at hl 0 rfl) ?_
          refine va_iast hx hb X.2.2.2.2.2.1.1 hP hD hS 1 0 rfl rfl (i := kk) (gk_k0 hk c110) d_Mo_sign_63 (fun H locs hP hD hS => ?_)
          obtain ⟨f111, ef111⟩ : ∃ g, g = upd ff (Int32.toNatClampNeg kk) x103 := ⟨_, rfl⟩
          rw [← ef111] at hP hD
          have hP : va_P E.1 gk_cl [(h0, .inr (10, [.int 0, .ref q1, .ref q2, .int kk, .ref q3, .ref q4, .ref q5, .ref q6, .ref q7, .ref q8, .ref q9, .ref q10, .ref q11, .ref q12, .ref q13, .ref q14, .ref q15, .ref q16, .ref q17, .int 0, .int 0, .int 0, .int 0, .ref q18, .ref q19, .ref q20, .ref q21, .int 0, .int 0, .ref q22, .ref q23, .int 0, .int 0, .int 0, .int 0, .int 0, .int 0, .int 0, .int 0, .ref q24, .int 0, .int 0, .int 0, .int 0, .ref q25, .ref q26, .ref q27, .ref q28, .ref q29, .ref q30, .ref q31, .ref q32, .int 0, .int 0, .ref q33, .ref q34, .ref q35, .int 0, .ref q36, .ref q37, .ref q38, .ref q39, .ref q40, .ref q41, .ref q42, .ref q43, .ref q44, .int 0, .ref q45, .ref q46, .ref q47, .ref q48, .ref q49, .int 0, .ref q50, .ref q51, .ref q52, .int 0, .int 0, .ref q53, .ref q54])), (q2, .inl (E.2.1 0, 3000, .inl f111))] H := hP
          have hD : va_D A [(h0, .inr (10, [.int 0, .ref q1, .ref q2, .int kk, .ref q3, .ref q4, .ref q5, .ref q6, .ref q7, .ref q8, .ref q9, .ref q10, .ref q11, .ref q12, .ref q13, .ref q14, .ref q15, .ref q16, .ref q17, .int 0, .int 0, .int 0, .int 0, .ref q18, .ref q19, .ref q20, .ref q21, .int 0, .int 0, .ref q22, .ref q23, .int 0, .int 0, .int 0, .int 0, .int 0, .int 0, .int 0, .int 0, .ref q24, .int 0, .int 0, .int 0, .int 0, .ref q25, .ref q26, .ref q27, .ref q28, .ref q29, .ref q30, .ref q31, .ref q32, .int 0, .int 0, .ref q33, .ref q34, .ref q35, .int 0, .ref q36, .ref q37, .ref q38, .ref q39, .ref q40, .ref q41, .ref q42, .ref q43, .ref q44, .int 0, .ref q45, .ref q46, .ref q47, .ref q48, .ref q49, .int 0, .ref q50, .ref q51, .ref q52, .int 0, .int 0, .ref q53, .ref q54])), (q2, .inl (E.2.1 0, 3000, .inl f111))] := hD
          refine lv_aload_n hx hb d_Mo_sign_64 rfl (lv_at hl 2 rfl) ?_
          refine lv_dup hx hb d_Mo_sign_65 rfl ?_
          refine gk_get (b := h0) (ci := 10) (v := .int kk) X in_Mo hP 0 rfl rfl 3 (by decide) k_1358 rfl d_Mo_sign_66 ?_
          refine lv_iconst (v := 1) hx hb d_Mo_sign_69 (by decide) ?_
          refine lv_iadd hx hb d_Mo_sign_70 ?_
          refine lv_topi (fun x112 ex112 => ?_)
          refine gk_put (b := h0) (ci := 10) (v := .int x112) (ty := t_Mo 3) (ws' := [(h0, .inr (10, [.int 0, .ref q1, .ref q2, .int x112, .ref q3, .ref q4, .ref q5, .ref q6, .ref q7, .ref q8, .ref q9, .ref q10, .ref q11, .ref q12, .ref q13, .ref q14, .ref q15, .ref q16, .ref q17, .int 0, .int 0, .int 0, .int 0, .ref q18, .ref q19, .ref q20, .ref q21, .int 0, .int 0, .ref q22, .ref q23, .int 0, .int 0, .int 0, .int 0, .int 0, .int 0, .int 0, .int 0, .ref q24, .int 0, .int 0, .int 0, .int 0, .ref q25, .ref q26, .ref q27, .ref q28, .ref q29, .ref q30, .ref q31, .ref q32, .int 0, .int 0, .ref q33, .ref q34, .ref q35, .int 0, .ref q36, .ref q37, .ref q38, .ref q39, .ref q40, .ref q41, .ref q42, .ref q43, .ref q44, .int 0, .ref q45, .ref q46, .ref q47, .ref q48, .ref q49, .int 0, .ref q50, .ref q51, .ref q52, .int 0, .int 0, .ref q53, .ref q54])), (q2, .inl (E.2.1 0, 3000, .inl f111))]) X in_Mo t_Mo t_Mo_ok n_Mo hP hD hS 0 rfl rfl 3 (by decide) k_1358 (Or.inl rfl) (t_Mo_ok 3 (by decide)) rfl rfl (Nat.le_of_ble_eq_true rfl) d_Mo_sign_71 rfl (fun H locs hP hD hS => ?_)
          refine lv_iinc (v := 0) (lv' := [(3, .int 0), (4, .int x103), (0, .ref h0), (1, .long cc)]) hx hb d_Mo_sign_74 hl (k := 1) rfl (by decide) (by decide) rfl (fun ls hl => ?_)
          refine lv_goto (tgt := 8) hx hb d_Mo_sign_77 (by decide) ?_
          exact l_Mo_sign_1 l E h0 q1 q2 q3 q4 q5 q6 q7 q8 q9 q10 q11 q12 q13 q14 q15 q16 q17 q18 q19 q20 q21 q22 q23 q24 q25 q26 q27 q28 q29 q30 q31 q32 q33 q34 q35 q36 q37 q38 q39 q40 q41 q42 q43 q44 q45 q46 q47 q48 q49 q50 q51 q52 q53 q54 cc X x112 f111 _ _ _ (by rw [ex112]; exact gk_k2 hk c110) (lv_sub hl [0, 2, 3] rfl) hP hD hS

set_option maxHeartbeats 4000000 in
set_option maxRecDepth 100000 in
theorem l_Mo_sign_3 {p : Program} {e : Env} {s : State} {m : MethodId} {below : List Frame} {meth : Method} {c : Code} {A : Nat → Prop} (l : Launch) (E : gk_E) (h0 : Nat) (q1 : Nat) (q2 : Nat) (q3 : Nat) (q4 : Nat) (q5 : Nat) (q6 : Nat) (q7 : Nat) (q8 : Nat) (q9 : Nat) (q10 : Nat) (q11 : Nat) (q12 : Nat) (q13 : Nat) (q14 : Nat) (q15 : Nat) (q16 : Nat) (q17 : Nat) (q18 : Nat) (q19 : Nat) (q20 : Nat) (q21 : Nat) (q22 : Nat) (q23 : Nat) (q24 : Nat) (q25 : Nat) (q26 : Nat) (q27 : Nat) (q28 : Nat) (q29 : Nat) (q30 : Nat) (q31 : Nat) (q32 : Nat) (q33 : Nat) (q34 : Nat) (q35 : Nat) (q36 : Nat) (q37 : Nat) (q38 : Nat) (q39 : Nat) (q40 : Nat) (q41 : Nat) (q42 : Nat) (q43 : Nat) (q44 : Nat) (q45 : Nat) (q46 : Nat) (q47 : Nat) (q48 : Nat) (q49 : Nat) (q50 : Nat) (q51 : Nat) (q52 : Nat) (q53 : Nat) (q54 : Nat) (cc : Int64) (X : gk_X E p s m ([.ref h0, .long cc] : List Value).toArray meth c y_Mo_sign b_Mo_sign 5 (none) A) : ∀ (kk : Int32) (ff : Nat → Int32) (H : Heap) (locs : List Loc) (ls : Array Slot), ¬ kk < 0 → lv_has ls 5 [(3, .int 16), (0, .ref h0), (1, .long cc)] → va_P E.1 gk_cl [(h0, .inr (10, [.int 0, .ref q1, .ref q2, .int kk, .ref q3, .ref q4, .ref q5, .ref q6, .ref q7, .ref q8, .ref q9, .ref q10, .ref q11, .ref q12, .ref q13, .ref q14, .ref q15, .ref q16, .ref q17, .int 0, .int 0, .int 0, .int 0, .ref q18, .ref q19, .ref q20, .ref q21, .int 0, .int 0, .ref q22, .ref q23, .int 0, .int 0, .int 0, .int 0, .int 0, .int 0, .int 0, .int 0, .ref q24, .int 0, .int 0, .int 0, .int 0, .ref q25, .ref q26, .ref q27, .ref q28, .ref q29, .ref q30, .ref q31, .ref q32, .int 0, .int 0, .ref q33, .ref q34, .ref q35, .int 0, .ref q36, .ref q37, .ref q38, .ref q39, .ref q40, .ref q41, .ref q42, .ref q43, .ref q44, .int 0, .ref q45, .ref q46, .ref q47, .ref q48, .ref q49, .int 0, .ref q50, .ref q51, .ref q52, .int 0, .int 0, .ref q53, .ref q54])), (q2, .inl (E.2.1 0, 3000, .inl ff))] H → va_D A [(h0, .inr (10, [.int 0, .ref q1, .ref q2, .int kk, .ref q3, .ref q4, .ref q5, .ref q6, .ref q7, .ref q8, .ref q9, .ref q10, .ref q11, .ref q12, .ref q13, .ref q14, .ref q15, .ref q16, .ref q17, .int 0, .int 0, .int 0, .int 0, .ref q18, .ref q19, .ref q20, .ref q21, .int 0, .int 0, .ref q22, .ref q23, .int 0, .int 0, .int 0, .int 0, .int 0, .int 0, .int 0, .int 0, .ref q24, .int 0, .int 0, .int 0, .int 0, .ref q25, .ref q26, .ref q27, .ref q28, .ref q29, .ref q30, .ref q31, .ref q32, .int 0, .int 0, .ref q33, .ref q34, .ref q35, .int 0, .ref q36, .ref q37, .ref q38, .ref q39, .ref q40, .ref q41, .ref q42, .ref q43, .ref q44, .int 0, .ref q45, .ref q46, .ref q47, .ref q48, .ref q49, .int 0, .ref q50, .ref q51, .ref q52, .int 0, .int 0, .ref q53, .ref q54])), (q2, .inl (E.2.1 0, 3000, .inl ff))] → va_S A s.heap H locs → W p l e (gk_rm 0 0 0) s m ([.ref h0, .long cc] : List Value).toArray below meth c H locs 0 0 (MQ below (gk_Q E A (fun r w => r = none ∧ w = [])) ([.ref h0, .long cc] : List Value).toArray s 0 0 A) (F0 m 8 ls []) := by
  intro kk ff H locs ls hk hl hP hD hS
  have hx := X.1
  have hb := X.2.1
  have hown := X.2.2.2.1
  have hts := X.2.2.2.2.1
  have hr := X.2.2.2.2.2.2.2.2.1
  have hlocks : meth.locks = false := X.2.2.2.2.2.2.2.2.2.1
  refine lv_iload_n hx hb d_Mo_sign_8 rfl (lv_at hl 0 rfl) ?_
  refine lv_if_lt (tgt := 80) hx hb d_Mo_sign_9 (by decide) (fun c9 => absurd c9 (by decide)) (fun _ => ?_)
  refine lv_lload_n hx hb d_Mo_sign_12 rfl (lv_at hl 2 rfl) ?_
  refine lv_iload_n hx hb d_Mo_sign_13 rfl (lv_at hl 0 rfl) ?_
  refine lv_lshr hx hb d_Mo_sign_14 rfl ?_
  refine lv_topl (fun x101 ex101 => ?_)
  refine lv_ldc2 (own := "JobTextModel") (v := 255) hx hb hown (hts _ k_1604) d_Mo_sign_15 ?_
  refine lv_land hx hb d_Mo_sign_18 ?_
  refine lv_topl (fun x102 ex102 => ?_)
  refine lv_l2i hx hb d_Mo_sign_19 rfl ?_
  refine lv_topi (fun x103 ex103 => ?_)
  refine lv_istore (lv' := [(4, .int x103), (3, .int 16), (0, .ref h0), (1, .long cc)]) hx hb d_Mo_sign_20 hl (by decide) rfl (fun ls hl => ?_)
  refine lv_iload hx hb d_Mo_sign_22 (lv_at hl 0 rfl) ?_
  refine lv_bipush (v := 10) hx hb d_Mo_sign_24 (by decide) ?_
  refine lv_icmp_eq (tgt := 43) hx hb d_Mo_sign_26 (by decide) (fun c104 => ?_) (fun c104 => ?_)
  · refine lv_aload_n hx hb d_Mo_sign_43 rfl (lv_at hl 2 rfl) ?_
    refine gk_get (b := h0) (ci := 10) (v := .int kk) X in_Mo hP 0 rfl rfl 3 (by decide) k_1358 rfl d_Mo_sign_44 ?_
    refine lv_sipush (v := 3000) hx hb d_Mo_sign_47 (by decide) ?_
    refine lv_icmp_ge (tgt := 74) hx hb d_Mo_sign_50 (by decide) (fun c105 => ?_) (fun c105 => ?_)
    · refine lv_iinc (v := 8) (lv' := [(3, .int 8), (4, .int x103), (0, .ref h0), (1, .long cc)]) hx hb d_Mo_sign_74 hl (k := 1) rfl (by decide) (by decide) rfl (fun ls hl => ?_)
      refine lv_goto (tgt := 8) hx hb d_Mo_sign_77 (by decide) ?_
      exact l_Mo_sign_2 l E h0 q1 q2 q3 q4 q5 q6 q7 q8 q9 q10 q11 q12 q13 q14 q15 q16 q17 q18 q19 q20 q21 q22 q23 q24 q25 q26 q27 q28 q29 q30 q31 q32 q33 q34 q35 q36 q37 q38 q39 q40 q41 q42 q43 q44 q45 q46 q47 q48 q49 q50 q51 q52 q53 q54 cc X kk ff _ _ _ hk (lv_sub hl [0, 2, 3] rfl) hP hD hS
    · refine lv_aload_n hx hb d_Mo_sign_53 rfl (lv_at hl 2 rfl) ?_
      refine gk_get (b := h0) (ci := 10) (v := .ref q2) X in_Mo hP 0 rfl rfl 2 (by decide) k_1357 rfl d_Mo_sign_54 ?_
      refine lv_aload_n hx hb d_Mo_sign_57 rfl (lv_at hl 2 rfl) ?_
      refine gk_get (b := h0) (ci := 10) (v := .int kk) X in_Mo hP 0 rfl rfl 3 (by decide) k_1358 rfl d_Mo_sign_58 ?_
      refine lv_iload hx hb d_Mo_sign_61 (lv_at hl 0 rfl) ?_
      refine va_iast hx hb X.2.2.2.2.2.1.1 hP hD hS 1 0 rfl rfl (i := kk) (gk_k0 hk c105) d_Mo_sign_63 (fun H locs hP hD hS => ?_)
      obtain ⟨f106, ef106⟩ : ∃ g, g = upd ff (Int32.toNatClampNeg kk) x103 := ⟨_, rfl⟩
      rw [← ef106] at hP hD
      have hP : va_P E.1 gk_cl [(h0, .inr (10, [.int 0, .ref q1, .ref q2, .int kk, .ref q3, .ref q4, .ref q5, .ref q6, .ref q7, .ref q8, .ref q9, .ref q10, .ref q11, .ref q12, .ref q13, .ref q14, .ref q15, .ref q16, .ref q17, .int 0, .int 0, .int 0, .int 0, .ref q18, .ref q19, .ref q20, .ref q21, .int 0, .int 0, .ref q22, .ref q23, .int 0, .int 0, .int 0, .int 0, .int 0, .int 0, .int 0, .int 0, .ref q24, .int 0, .int 0, .int 0, .int 0, .ref q25, .ref q26, .ref q27, .ref q28, .ref q29, .ref q30, .ref q31, .ref q32, .int 0, .int 0, .ref q33, .ref q34, .ref q35, .int 0, .ref q36, .ref q37, .ref q38, .ref q39, .ref q40, .ref q41, .ref q42, .ref q43, .ref q44, .int 0, .ref q45, .ref q46, .ref q47, .ref q48, .ref q49, .int 0, .ref q50, .ref q51, .ref q52, .int 0, .int 0, .ref q53, .ref q54])), (q2, .inl (E.2.1 0, 3000, .inl f106))] H := hP
      have hD : va_D A [(h0, .inr (10, [.int 0, .ref q1, .ref q2, .int kk, .ref q3, .ref q4, .ref q5, .ref q6, .ref q7, .ref q8, .ref q9, .ref q10, .ref q11, .ref q12, .ref q13, .ref q14, .ref q15, .ref q16, .ref q17, .int 0, .int 0, .int 0, .int 0, .ref q18, .ref q19, .ref q20, .ref q21, .int 0, .int 0, .ref q22, .ref q23, .int 0, .int 0, .int 0, .int 0, .int 0, .int 0, .int 0, .int 0, .ref q24, .int 0, .int 0, .int 0, .int 0, .ref q25, .ref q26, .ref q27, .ref q28, .ref q29, .ref q30, .ref q31, .ref q32, .int 0, .int 0, .ref q33, .ref q34, .ref q35, .int 0, .ref q36, .ref q37, .ref q38, .ref q39, .ref q40, .ref q41, .ref q42, .ref q43, .ref q44, .int 0, .ref q45, .ref q46, .ref q47, .ref q48, .ref q49, .int 0, .ref q50, .ref q51, .ref q52, .int 0, .int 0, .ref q53, .ref q54])), (q2, .inl (E.2.1 0, 3000, .inl f106))] := hD
      refine lv_aload_n hx hb d_Mo_sign_64 rfl (lv_at hl 2 rfl) ?_
      refine lv_dup hx hb d_Mo_sign_65 rfl ?_
      refine gk_get (b := h0) (ci := 10) (v := .int kk) X in_Mo hP 0 rfl rfl 3 (by decide) k_1358 rfl d_Mo_sign_66 ?_
      refine lv_iconst (v := 1) hx hb d_Mo_sign_69 (by decide) ?_
      refine lv_iadd hx hb d_Mo_sign_70 ?_
      refine lv_topi (fun x107 ex107 => ?_)
      refine gk_put (b := h0) (ci := 10) (v := .int x107) (ty := t_Mo 3) (ws' := [(h0, .inr (10, [.int 0, .ref q1, .ref q2, .int x107, .ref q3, .ref q4, .ref q5, .ref q6, .ref q7, .ref q8, .ref q9, .ref q10, .ref q11, .ref q12, .ref q13, .ref q14, .ref q15, .ref q16, .ref q17, .int 0, .int 0, .int 0, .int 0, .ref q18, .ref q19, .ref q20, .ref q21, .int 0, .int 0, .ref q22, .ref q23, .int 0, .int 0, .int 0, .int 0, .int 0, .int 0, .int 0, .int 0, .ref q24, .int 0, .int 0, .int 0, .int 0, .ref q25, .ref q26, .ref q27, .ref q28, .ref q29, .ref q30, .ref q31, .ref q32, .int 0, .int 0, .ref q33, .ref q34, .ref q35, .int 0, .ref q36, .ref q37, .ref q38, .ref q39, .ref q40, .ref q41, .ref q42, .ref q43, .ref q44, .int 0, .ref q45, .ref q46, .ref q47, .ref q48, .ref q49, .int 0, .ref q50, .ref q51, .ref q52, .int 0, .int 0, .ref q53, .ref q54])), (q2, .inl (E.2.1 0, 3000, .inl f106))]) X in_Mo t_Mo t_Mo_ok n_Mo hP hD hS 0 rfl rfl 3 (by decide) k_1358 (Or.inl rfl) (t_Mo_ok 3 (by decide)) rfl rfl (Nat.le_of_ble_eq_true rfl) d_Mo_sign_71 rfl (fun H locs hP hD hS => ?_)
      refine lv_iinc (v := 8) (lv' := [(3, .int 8), (4, .int x103), (0, .ref h0), (1, .long cc)]) hx hb d_Mo_sign_74 hl (k := 1) rfl (by decide) (by decide) rfl (fun ls hl => ?_)
      refine lv_goto (tgt := 8) hx hb d_Mo_sign_77 (by decide) ?_
      exact l_Mo_sign_2 l E h0 q1 q2 q3 q4 q5 q6 q7 q8 q9 q10 q11 q12 q13 q14 q15 q16 q17 q18 q19 q20 q21 q22 q23 q24 q25 q26 q27 q28 q29 q30 q31 q32 q33 q34 q35 q36 q37 q38 q39 q40 q41 q42 q43 q44 q45 q46 q47 q48 q49 q50 q51 q52 q53 q54 cc X x107 f106 _ _ _ (by rw [ex107]; exact gk_k2 hk c105) (lv_sub hl [0, 2, 3] rfl) hP hD hS
  · refine lv_iload hx hb d_Mo_sign_29 (lv_at hl 0 rfl) ?_
    refine lv_bipush (v := 32) hx hb d_Mo_sign_31 (by decide) ?_
    refine lv_icmp_lt (tgt := 74) hx hb d_Mo_sign_33 (by decide) (fun c108 => ?_) (fun c108 => ?_)
    · refine lv_iinc (v := 8) (lv' := [(3, .int 8), (4, .int x103), (0, .ref h0), (1, .long cc)]) hx hb d_Mo_sign_74 hl (k := 1) rfl (by decide) (by decide) rfl (fun ls hl => ?_)
      refine lv_goto (tgt := 8) hx hb d_Mo_sign_77 (by decide) ?_
      exact l_Mo_sign_2 l E h0 q1 q2 q3 q4 q5 q6 q7 q8 q9 q10 q11 q12 q13 q14 q15 q16 q17 q18 q19 q20 q21 q22 q23 q24 q25 q26 q27 q28 q29 q30 q31 q32 q33 q34 q35 q36 q37 q38 q39 q40 q41 q42 q43 q44 q45 q46 q47 q48 q49 q50 q51 q52 q53 q54 cc X kk ff _ _ _ hk (lv_sub hl [0, 2, 3] rfl) hP hD hS
    · refine lv_iload hx hb d_Mo_sign_36 (lv_at hl 0 rfl) ?_
      refine lv_bipush (v := 126) hx hb d_Mo_sign_38 (by decide) ?_
      refine lv_icmp_gt (tgt := 74) hx hb d_Mo_sign_40 (by decide) (fun c109 => ?_) (fun c109 => ?_)
      · refine lv_iinc (v := 8) (lv' := [(3, .int 8), (4, .int x103), (0, .ref h0), (1, .long cc)]) hx hb d_Mo_sign_74 hl (k := 1) rfl (by decide) (by decide) rfl (fun ls hl => ?_)
        refine lv_goto (tgt := 8) hx hb d_Mo_sign_77 (by decide) ?_
        exact l_Mo_sign_2 l E h0 q1 q2 q3 q4 q5 q6 q7 q8 q9 q10 q11 q12 q13 q14 q15 q16 q17 q18 q19 q20 q21 q22 q23 q24 q25 q26 q27 q28 q29 q30 q31 q32 q33 q34 q35 q36 q37 q38 q39 q40 q41 q42 q43 q44 q45 q46 q47 q48 q49 q50 q51 q52 q53 q54 cc X kk ff _ _ _ hk (lv_sub hl [0, 2, 3] rfl) hP hD hS
      · refine lv_aload_n hx hb d_Mo_sign_43 rfl (lv_at hl 2 rfl) ?_
        refine gk_get (b := h0) (ci := 10) (v := .int kk) X in_Mo hP 0 rfl rfl 3 (by decide) k_1358 rfl d_Mo_sign_44 ?_
        refine lv_sipush (v := 3000) hx hb d_Mo_sign_47 (by decide) ?_
        refine lv_icmp_ge (tgt := 74) hx hb d_Mo_sign_50 (by decide) (fun c110 => ?_) (fun c110 => ?_)
        · refine lv_iinc (v := 8) (lv' := [(3, .int 8), (4, .int x103), (0, .ref h0), (1, .long cc)]) hx hb d_Mo_sign_74 hl (k := 1) rfl (by decide) (by decide) rfl (fun ls hl => ?_)
          refine lv_goto (tgt := 8) hx hb d_Mo_sign_77 (by decide) ?_
          exact l_Mo_sign_2 l E h0 q1 q2 q3 q4 q5 q6 q7 q8 q9 q10 q11 q12 q13 q14 q15 q16 q17 q18 q19 q20 q21 q22 q23 q24 q25 q26 q27 q28 q29 q30 q31 q32 q33 q34 q35 q36 q37 q38 q39 q40 q41 q42 q43 q44 q45 q46 q47 q48 q49 q50 q51 q52 q53 q54 cc X kk ff _ _ _ hk (lv_sub hl [0, 2, 3] rfl) hP hD hS
        · refine lv_aload_n hx hb d_Mo_sign_53 rfl (lv_at hl 2 rfl) ?_
          refine gk_get (b := h0) (ci := 10) (v := .ref q2) X in_Mo hP 0 rfl rfl 2 (by decide) k_1357 rfl d_Mo_sign_54 ?_
          refine lv_aload_n hx hb d_Mo_sign_57 rfl (lv_at hl 2 rfl) ?_
          refine gk_get (b := h0) (ci := 10) (v := .int kk) X in_Mo hP 0 rfl rfl 3 (by decide) k_1358 rfl d_Mo_sign_58 ?_
          refine lv_iload hx hb d_Mo_sign_61 (lv_at hl 0 rfl) ?_
          refine va_iast hx hb X.2.2.2.2.2.1.1 hP hD hS 1 0 rfl rfl (i := kk) (gk_k0 hk c110) d_Mo_sign_63 (fun H locs hP hD hS => ?_)
          obtain ⟨f111, ef111⟩ : ∃ g, g = upd ff (Int32.toNatClampNeg kk) x103 := ⟨_, rfl⟩
          rw [← ef111] at hP hD
          have hP : va_P E.1 gk_cl [(h0, .inr (10, [.int 0, .ref q1, .ref q2, .int kk, .ref q3, .ref q4, .ref q5, .ref q6, .ref q7, .ref q8, .ref q9, .ref q10, .ref q11, .ref q12, .ref q13, .ref q14, .ref q15, .ref q16, .ref q17, .int 0, .int 0, .int 0, .int 0, .ref q18, .ref q19, .ref q20, .ref q21, .int 0, .int 0, .ref q22, .ref q23, .int 0, .int 0, .int 0, .int 0, .int 0, .int 0, .int 0, .int 0, .ref q24, .int 0, .int 0, .int 0, .int 0, .ref q25, .ref q26, .ref q27, .ref q28, .ref q29, .ref q30, .ref q31, .ref q32, .int 0, .int 0, .ref q33, .ref q34, .ref q35, .int 0, .ref q36, .ref q37, .ref q38, .ref q39, .ref q40, .ref q41, .ref q42, .ref q43, .ref q44, .int 0, .ref q45, .ref q46, .ref q47, .ref q48, .ref q49, .int 0, .ref q50, .ref q51, .ref q52, .int 0, .int 0, .ref q53, .ref q54])), (q2, .inl (E.2.1 0, 3000, .inl f111))] H := hP
          have hD : va_D A [(h0, .inr (10, [.int 0, .ref q1, .ref q2, .int kk, .ref q3, .ref q4, .ref q5, .ref q6, .ref q7, .ref q8, .ref q9, .ref q10, .ref q11, .ref q12, .ref q13, .ref q14, .ref q15, .ref q16, .ref q17, .int 0, .int 0, .int 0, .int 0, .ref q18, .ref q19, .ref q20, .ref q21, .int 0, .int 0, .ref q22, .ref q23, .int 0, .int 0, .int 0, .int 0, .int 0, .int 0, .int 0, .int 0, .ref q24, .int 0, .int 0, .int 0, .int 0, .ref q25, .ref q26, .ref q27, .ref q28, .ref q29, .ref q30, .ref q31, .ref q32, .int 0, .int 0, .ref q33, .ref q34, .ref q35, .int 0, .ref q36, .ref q37, .ref q38, .ref q39, .ref q40, .ref q41, .ref q42, .ref q43, .ref q44, .int 0, .ref q45, .ref q46, .ref q47, .ref q48, .ref q49, .int 0, .ref q50, .ref q51, .ref q52, .int 0, .int 0, .ref q53, .ref q54])), (q2, .inl (E.2.1 0, 3000, .inl f111))] := hD
          refine lv_aload_n hx hb d_Mo_sign_64 rfl (lv_at hl 2 rfl) ?_
          refine lv_dup hx hb d_Mo_sign_65 rfl ?_
          refine gk_get (b := h0) (ci := 10) (v := .int kk) X in_Mo hP 0 rfl rfl 3 (by decide) k_1358 rfl d_Mo_sign_66 ?_
          refine lv_iconst (v := 1) hx hb d_Mo_sign_69 (by decide) ?_
          refine lv_iadd hx hb d_Mo_sign_70 ?_
          refine lv_topi (fun x112 ex112 => ?_)
          refine gk_put (b := h0) (ci := 10) (v := .int x112) (ty := t_Mo 3) (ws' := [(h0, .inr (10, [.int 0, .ref q1, .ref q2, .int x112, .ref q3, .ref q4, .ref q5, .ref q6, .ref q7, .ref q8, .ref q9, .ref q10, .ref q11, .ref q12, .ref q13, .ref q14, .ref q15, .ref q16, .ref q17, .int 0, .int 0, .int 0, .int 0, .ref q18, .ref q19, .ref q20, .ref q21, .int 0, .int 0, .ref q22, .ref q23, .int 0, .int 0, .int 0, .int 0, .int 0, .int 0, .int 0, .int 0, .ref q24, .int 0, .int 0, .int 0, .int 0, .ref q25, .ref q26, .ref q27, .ref q28, .ref q29, .ref q30, .ref q31, .ref q32, .int 0, .int 0, .ref q33, .ref q34, .ref q35, .int 0, .ref q36, .ref q37, .ref q38, .ref q39, .ref q40, .ref q41, .ref q42, .ref q43, .ref q44, .int 0, .ref q45, .ref q46, .ref q47, .ref q48, .ref q49, .int 0, .ref q50, .ref q51, .ref q52, .int 0, .int 0, .ref q53, .ref q54])), (q2, .inl (E.2.1 0, 3000, .inl f111))]) X in_Mo t_Mo t_Mo_ok n_Mo hP hD hS 0 rfl rfl 3 (by decide) k_1358 (Or.inl rfl) (t_Mo_ok 3 (by decide)) rfl rfl (Nat.le_of_ble_eq_true rfl) d_Mo_sign_71 rfl (fun H locs hP hD hS => ?_)
          refine lv_iinc (v := 8) (lv' := [(3, .int 8), (4, .int x103), (0, .ref h0), (1, .long cc)]) hx hb d_Mo_sign_74 hl (k := 1) rfl (by decide) (by decide) rfl (fun ls hl => ?_)
          refine lv_goto (tgt := 8) hx hb d_Mo_sign_77 (by decide) ?_
          exact l_Mo_sign_2 l E h0 q1 q2 q3 q4 q5 q6 q7 q8 q9 q10 q11 q12 q13 q14 q15 q16 q17 q18 q19 q20 q21 q22 q23 q24 q25 q26 q27 q28 q29 q30 q31 q32 q33 q34 q35 q36 q37 q38 q39 q40 q41 q42 q43 q44 q45 q46 q47 q48 q49 q50 q51 q52 q53 q54 cc X x112 f111 _ _ _ (by rw [ex112]; exact gk_k2 hk c110) (lv_sub hl [0, 2, 3] rfl) hP hD hS

set_option maxHeartbeats 4000000 in
set_option maxRecDepth 100000 in
theorem l_Mo_sign_4 {p : Program} {e : Env} {s : State} {m : MethodId} {below : List Frame} {meth : Method} {c : Code} {A : Nat → Prop} (l : Launch) (E : gk_E) (h0 : Nat) (q1 : Nat) (q2 : Nat) (q3 : Nat) (q4 : Nat) (q5 : Nat) (q6 : Nat) (q7 : Nat) (q8 : Nat) (q9 : Nat) (q10 : Nat) (q11 : Nat) (q12 : Nat) (q13 : Nat) (q14 : Nat) (q15 : Nat) (q16 : Nat) (q17 : Nat) (q18 : Nat) (q19 : Nat) (q20 : Nat) (q21 : Nat) (q22 : Nat) (q23 : Nat) (q24 : Nat) (q25 : Nat) (q26 : Nat) (q27 : Nat) (q28 : Nat) (q29 : Nat) (q30 : Nat) (q31 : Nat) (q32 : Nat) (q33 : Nat) (q34 : Nat) (q35 : Nat) (q36 : Nat) (q37 : Nat) (q38 : Nat) (q39 : Nat) (q40 : Nat) (q41 : Nat) (q42 : Nat) (q43 : Nat) (q44 : Nat) (q45 : Nat) (q46 : Nat) (q47 : Nat) (q48 : Nat) (q49 : Nat) (q50 : Nat) (q51 : Nat) (q52 : Nat) (q53 : Nat) (q54 : Nat) (cc : Int64) (X : gk_X E p s m ([.ref h0, .long cc] : List Value).toArray meth c y_Mo_sign b_Mo_sign 5 (none) A) : ∀ (kk : Int32) (ff : Nat → Int32) (H : Heap) (locs : List Loc) (ls : Array Slot), ¬ kk < 0 → lv_has ls 5 [(3, .int 24), (0, .ref h0), (1, .long cc)] → va_P E.1 gk_cl [(h0, .inr (10, [.int 0, .ref q1, .ref q2, .int kk, .ref q3, .ref q4, .ref q5, .ref q6, .ref q7, .ref q8, .ref q9, .ref q10, .ref q11, .ref q12, .ref q13, .ref q14, .ref q15, .ref q16, .ref q17, .int 0, .int 0, .int 0, .int 0, .ref q18, .ref q19, .ref q20, .ref q21, .int 0, .int 0, .ref q22, .ref q23, .int 0, .int 0, .int 0, .int 0, .int 0, .int 0, .int 0, .int 0, .ref q24, .int 0, .int 0, .int 0, .int 0, .ref q25, .ref q26, .ref q27, .ref q28, .ref q29, .ref q30, .ref q31, .ref q32, .int 0, .int 0, .ref q33, .ref q34, .ref q35, .int 0, .ref q36, .ref q37, .ref q38, .ref q39, .ref q40, .ref q41, .ref q42, .ref q43, .ref q44, .int 0, .ref q45, .ref q46, .ref q47, .ref q48, .ref q49, .int 0, .ref q50, .ref q51, .ref q52, .int 0, .int 0, .ref q53, .ref q54])), (q2, .inl (E.2.1 0, 3000, .inl ff))] H → va_D A [(h0, .inr (10, [.int 0, .ref q1, .ref q2, .int kk, .ref q3, .ref q4, .ref q5, .ref q6, .ref q7, .ref q8, .ref q9, .ref q10, .ref q11, .ref q12, .ref q13, .ref q14, .ref q15, .ref q16, .ref q17, .int 0, .int 0, .int 0, .int 0, .ref q18, .ref q19, .ref q20, .ref q21, .int 0, .int 0, .ref q22, .ref q23, .int 0, .int 0, .int 0, .int 0, .int 0, .int 0, .int 0, .int 0, .ref q24, .int 0, .int 0, .int 0, .int 0, .ref q25, .ref q26, .ref q27, .ref q28, .ref q29, .ref q30, .ref q31, .ref q32, .int 0, .int 0, .ref q33, .ref q34, .ref q35, .int 0, .ref q36, .ref q37, .ref q38, .ref q39, .ref q40, .ref q41, .ref q42, .ref q43, .ref q44, .int 0, .ref q45, .ref q46, .ref q47, .ref q48, .ref q49, .int 0, .ref q50, .ref q51, .ref q52, .int 0, .int 0, .ref q53, .ref q54])), (q2, .inl (E.2.1 0, 3000, .inl ff))] → va_S A s.heap H locs → W p l e (gk_rm 0 0 0) s m ([.ref h0, .long cc] : List Value).toArray below meth c H locs 0 0 (MQ below (gk_Q E A (fun r w => r = none ∧ w = [])) ([.ref h0, .long cc] : List Value).toArray s 0 0 A) (F0 m 8 ls []) := by
  intro kk ff H locs ls hk hl hP hD hS
  have hx := X.1
  have hb := X.2.1
  have hown := X.2.2.2.1
  have hts := X.2.2.2.2.1
  have hr := X.2.2.2.2.2.2.2.2.1
  have hlocks : meth.locks = false := X.2.2.2.2.2.2.2.2.2.1
  refine lv_iload_n hx hb d_Mo_sign_8 rfl (lv_at hl 0 rfl) ?_
  refine lv_if_lt (tgt := 80) hx hb d_Mo_sign_9 (by decide) (fun c9 => absurd c9 (by decide)) (fun _ => ?_)
  refine lv_lload_n hx hb d_Mo_sign_12 rfl (lv_at hl 2 rfl) ?_
  refine lv_iload_n hx hb d_Mo_sign_13 rfl (lv_at hl 0 rfl) ?_
  refine lv_lshr hx hb d_Mo_sign_14 rfl ?_
  refine lv_topl (fun x101 ex101 => ?_)
  refine lv_ldc2 (own := "JobTextModel") (v := 255) hx hb hown (hts _ k_1604) d_Mo_sign_15 ?_
  refine lv_land hx hb d_Mo_sign_18 ?_
  refine lv_topl (fun x102 ex102 => ?_)
  refine lv_l2i hx hb d_Mo_sign_19 rfl ?_
  refine lv_topi (fun x103 ex103 => ?_)
  refine lv_istore (lv' := [(4, .int x103), (3, .int 24), (0, .ref h0), (1, .long cc)]) hx hb d_Mo_sign_20 hl (by decide) rfl (fun ls hl => ?_)
  refine lv_iload hx hb d_Mo_sign_22 (lv_at hl 0 rfl) ?_
  refine lv_bipush (v := 10) hx hb d_Mo_sign_24 (by decide) ?_
  refine lv_icmp_eq (tgt := 43) hx hb d_Mo_sign_26 (by decide) (fun c104 => ?_) (fun c104 => ?_)
  · refine lv_aload_n hx hb d_Mo_sign_43 rfl (lv_at hl 2 rfl) ?_
    refine gk_get (b := h0) (ci := 10) (v := .int kk) X in_Mo hP 0 rfl rfl 3 (by decide) k_1358 rfl d_Mo_sign_44 ?_
    refine lv_sipush (v := 3000) hx hb d_Mo_sign_47 (by decide) ?_
    refine lv_icmp_ge (tgt := 74) hx hb d_Mo_sign_50 (by decide) (fun c105 => ?_) (fun c105 => ?_)
    · refine lv_iinc (v := 16) (lv' := [(3, .int 16), (4, .int x103), (0, .ref h0), (1, .long cc)]) hx hb d_Mo_sign_74 hl (k := 1) rfl (by decide) (by decide) rfl (fun ls hl => ?_)
      refine lv_goto (tgt := 8) hx hb d_Mo_sign_77 (by decide) ?_
      exact l_Mo_sign_3 l E h0 q1 q2 q3 q4 q5 q6 q7 q8 q9 q10 q11 q12 q13 q14 q15 q16 q17 q18 q19 q20 q21 q22 q23 q24 q25 q26 q27 q28 q29 q30 q31 q32 q33 q34 q35 q36 q37 q38 q39 q40 q41 q42 q43 q44 q45 q46 q47 q48 q49 q50 q51 q52 q53 q54 cc X kk ff _ _ _ hk (lv_sub hl [0, 2, 3] rfl) hP hD hS
    · refine lv_aload_n hx hb d_Mo_sign_53 rfl (lv_at hl 2 rfl) ?_
      refine gk_get (b := h0) (ci := 10) (v := .ref q2) X in_Mo hP 0 rfl rfl 2 (by decide) k_1357 rfl d_Mo_sign_54 ?_
      refine lv_aload_n hx hb d_Mo_sign_57 rfl (lv_at hl 2 rfl) ?_
      refine gk_get (b := h0) (ci := 10) (v := .int kk) X in_Mo hP 0 rfl rfl 3 (by decide) k_1358 rfl d_Mo_sign_58 ?_
      refine lv_iload hx hb d_Mo_sign_61 (lv_at hl 0 rfl) ?_
      refine va_iast hx hb X.2.2.2.2.2.1.1 hP hD hS 1 0 rfl rfl (i := kk) (gk_k0 hk c105) d_Mo_sign_63 (fun H locs hP hD hS => ?_)
      obtain ⟨f106, ef106⟩ : ∃ g, g = upd ff (Int32.toNatClampNeg kk) x103 := ⟨_, rfl⟩
      rw [← ef106] at hP hD
      have hP : va_P E.1 gk_cl [(h0, .inr (10, [.int 0, .ref q1, .ref q2, .int kk, .ref q3, .ref q4, .ref q5, .ref q6, .ref q7, .ref q8, .ref q9, .ref q10, .ref q11, .ref q12, .ref q13, .ref q14, .ref q15, .ref q16, .ref q17, .int 0, .int 0, .int 0, .int 0, .ref q18, .ref q19, .ref q20, .ref q21, .int 0, .int 0, .ref q22, .ref q23, .int 0, .int 0, .int 0, .int 0, .int 0, .int 0, .int 0, .int 0, .ref q24, .int 0, .int 0, .int 0, .int 0, .ref q25, .ref q26, .ref q27, .ref q28, .ref q29, .ref q30, .ref q31, .ref q32, .int 0, .int 0, .ref q33, .ref q34, .ref q35, .int 0, .ref q36, .ref q37, .ref q38, .ref q39, .ref q40, .ref q41, .ref q42, .ref q43, .ref q44, .int 0, .ref q45, .ref q46, .ref q47, .ref q48, .ref q49, .int 0, .ref q50, .ref q51, .ref q52, .int 0, .int 0, .ref q53, .ref q54])), (q2, .inl (E.2.1 0, 3000, .inl f106))] H := hP
      have hD : va_D A [(h0, .inr (10, [.int 0, .ref q1, .ref q2, .int kk, .ref q3, .ref q4, .ref q5, .ref q6, .ref q7, .ref q8, .ref q9, .ref q10, .ref q11, .ref q12, .ref q13, .ref q14, .ref q15, .ref q16, .ref q17, .int 0, .int 0, .int 0, .int 0, .ref q18, .ref q19, .ref q20, .ref q21, .int 0, .int 0, .ref q22, .ref q23, .int 0, .int 0, .int 0, .int 0, .int 0, .int 0, .int 0, .int 0, .ref q24, .int 0, .int 0, .int 0, .int 0, .ref q25, .ref q26, .ref q27, .ref q28, .ref q29, .ref q30, .ref q31, .ref q32, .int 0, .int 0, .ref q33, .ref q34, .ref q35, .int 0, .ref q36, .ref q37, .ref q38, .ref q39, .ref q40, .ref q41, .ref q42, .ref q43, .ref q44, .int 0, .ref q45, .ref q46, .ref q47, .ref q48, .ref q49, .int 0, .ref q50, .ref q51, .ref q52, .int 0, .int 0, .ref q53, .ref q54])), (q2, .inl (E.2.1 0, 3000, .inl f106))] := hD
      refine lv_aload_n hx hb d_Mo_sign_64 rfl (lv_at hl 2 rfl) ?_
      refine lv_dup hx hb d_Mo_sign_65 rfl ?_
      refine gk_get (b := h0) (ci := 10) (v := .int kk) X in_Mo hP 0 rfl rfl 3 (by decide) k_1358 rfl d_Mo_sign_66 ?_
      refine lv_iconst (v := 1) hx hb d_Mo_sign_69 (by decide) ?_
      refine lv_iadd hx hb d_Mo_sign_70 ?_
      refine lv_topi (fun x107 ex107 => ?_)
      refine gk_put (b := h0) (ci := 10) (v := .int x107) (ty := t_Mo 3) (ws' := [(h0, .inr (10, [.int 0, .ref q1, .ref q2, .int x107, .ref q3, .ref q4, .ref q5, .ref q6, .ref q7, .ref q8, .ref q9, .ref q10, .ref q11, .ref q12, .ref q13, .ref q14, .ref q15, .ref q16, .ref q17, .int 0, .int 0, .int 0, .int 0, .ref q18, .ref q19, .ref q20, .ref q21, .int 0, .int 0, .ref q22, .ref q23, .int 0, .int 0, .int 0, .int 0, .int 0, .int 0, .int 0, .int 0, .ref q24, .int 0, .int 0, .int 0, .int 0, .ref q25, .ref q26, .ref q27, .ref q28, .ref q29, .ref q30, .ref q31, .ref q32, .int 0, .int 0, .ref q33, .ref q34, .ref q35, .int 0, .ref q36, .ref q37, .ref q38, .ref q39, .ref q40, .ref q41, .ref q42, .ref q43, .ref q44, .int 0, .ref q45, .ref q46, .ref q47, .ref q48, .ref q49, .int 0, .ref q50, .ref q51, .ref q52, .int 0, .int 0, .ref q53, .ref q54])), (q2, .inl (E.2.1 0, 3000, .inl f106))]) X in_Mo t_Mo t_Mo_ok n_Mo hP hD hS 0 rfl rfl 3 (by decide) k_1358 (Or.inl rfl) (t_Mo_ok 3 (by decide)) rfl rfl (Nat.le_of_ble_eq_true rfl) d_Mo_sign_71 rfl (fun H locs hP hD hS => ?_)
      refine lv_iinc (v := 16) (lv' := [(3, .int 16), (4, .int x103), (0, .ref h0), (1, .long cc)]) hx hb d_Mo_sign_74 hl (k := 1) rfl (by decide) (by decide) rfl (fun ls hl => ?_)
      refine lv_goto (tgt := 8) hx hb d_Mo_sign_77 (by decide) ?_
      exact l_Mo_sign_3 l E h0 q1 q2 q3 q4 q5 q6 q7 q8 q9 q10 q11 q12 q13 q14 q15 q16 q17 q18 q19 q20 q21 q22 q23 q24 q25 q26 q27 q28 q29 q30 q31 q32 q33 q34 q35 q36 q37 q38 q39 q40 q41 q42 q43 q44 q45 q46 q47 q48 q49 q50 q51 q52 q53 q54 cc X x107 f106 _ _ _ (by rw [ex107]; exact gk_k2 hk c105) (lv_sub hl [0, 2, 3] rfl) hP hD hS
  · refine lv_iload hx hb d_Mo_sign_29 (lv_at hl 0 rfl) ?_
    refine lv_bipush (v := 32) hx hb d_Mo_sign_31 (by decide) ?_
    refine lv_icmp_lt (tgt := 74) hx hb d_Mo_sign_33 (by decide) (fun c108 => ?_) (fun c108 => ?_)
    · refine lv_iinc (v := 16) (lv' := [(3, .int 16), (4, .int x103), (0, .ref h0), (1, .long cc)]) hx hb d_Mo_sign_74 hl (k := 1) rfl (by decide) (by decide) rfl (fun ls hl => ?_)
      refine lv_goto (tgt := 8) hx hb d_Mo_sign_77 (by decide) ?_
      exact l_Mo_sign_3 l E h0 q1 q2 q3 q4 q5 q6 q7 q8 q9 q10 q11 q12 q13 q14 q15 q16 q17 q18 q19 q20 q21 q22 q23 q24 q25 q26 q27 q28 q29 q30 q31 q32 q33 q34 q35 q36 q37 q38 q39 q40 q41 q42 q43 q44 q45 q46 q47 q48 q49 q50 q51 q52 q53 q54 cc X kk ff _ _ _ hk (lv_sub hl [0, 2, 3] rfl) hP hD hS
    · refine lv_iload hx hb d_Mo_sign_36 (lv_at hl 0 rfl) ?_
      refine lv_bipush (v := 126) hx hb d_Mo_sign_38 (by decide) ?_
      refine lv_icmp_gt (tgt := 74) hx hb d_Mo_sign_40 (by decide) (fun c109 => ?_) (fun c109 => ?_)
      · refine lv_iinc (v := 16) (lv' := [(3, .int 16), (4, .int x103), (0, .ref h0), (1, .long cc)]) hx hb d_Mo_sign_74 hl (k := 1) rfl (by decide) (by decide) rfl (fun ls hl => ?_)
        refine lv_goto (tgt := 8) hx hb d_Mo_sign_77 (by decide) ?_
        exact l_Mo_sign_3 l E h0 q1 q2 q3 q4 q5 q6 q7 q8 q9 q10 q11 q12 q13 q14 q15 q16 q17 q18 q19 q20 q21 q22 q23 q24 q25 q26 q27 q28 q29 q30 q31 q32 q33 q34 q35 q36 q37 q38 q39 q40 q41 q42 q43 q44 q45 q46 q47 q48 q49 q50 q51 q52 q53 q54 cc X kk ff _ _ _ hk (lv_sub hl [0, 2, 3] rfl) hP hD hS
      · refine lv_aload_n hx hb d_Mo_sign_43 rfl (lv_at hl 2 rfl) ?_
        refine gk_get (b := h0) (ci := 10) (v := .int kk) X in_Mo hP 0 rfl rfl 3 (by decide) k_1358 rfl d_Mo_sign_44 ?_
        refine lv_sipush (v := 3000) hx hb d_Mo_sign_47 (by decide) ?_
        refine lv_icmp_ge (tgt := 74) hx hb d_Mo_sign_50 (by decide) (fun c110 => ?_) (fun c110 => ?_)
        · refine lv_iinc (v := 16) (lv' := [(3, .int 16), (4, .int x103), (0, .ref h0), (1, .long cc)]) hx hb d_Mo_sign_74 hl (k := 1) rfl (by decide) (by decide) rfl (fun ls hl => ?_)
          refine lv_goto (tgt := 8) hx hb d_Mo_sign_77 (by decide) ?_
          exact l_Mo_sign_3 l E h0 q1 q2 q3 q4 q5 q6 q7 q8 q9 q10 q11 q12 q13 q14 q15 q16 q17 q18 q19 q20 q21 q22 q23 q24 q25 q26 q27 q28 q29 q30 q31 q32 q33 q34 q35 q36 q37 q38 q39 q40 q41 q42 q43 q44 q45 q46 q47 q48 q49 q50 q51 q52 q53 q54 cc X kk ff _ _ _ hk (lv_sub hl [0, 2, 3] rfl) hP hD hS
        · refine lv_aload_n hx hb d_Mo_sign_53 rfl (lv_at hl 2 rfl) ?_
          refine gk_get (b := h0) (ci := 10) (v := .ref q2) X in_Mo hP 0 rfl rfl 2 (by decide) k_1357 rfl d_Mo_sign_54 ?_
          refine lv_aload_n hx hb d_Mo_sign_57 rfl (lv_at hl 2 rfl) ?_
          refine gk_get (b := h0) (ci := 10) (v := .int kk) X in_Mo hP 0 rfl rfl 3 (by decide) k_1358 rfl d_Mo_sign_58 ?_
          refine lv_iload hx hb d_Mo_sign_61 (lv_at hl 0 rfl) ?_
          refine va_iast hx hb X.2.2.2.2.2.1.1 hP hD hS 1 0 rfl rfl (i := kk) (gk_k0 hk c110) d_Mo_sign_63 (fun H locs hP hD hS => ?_)
          obtain ⟨f111, ef111⟩ : ∃ g, g = upd ff (Int32.toNatClampNeg kk) x103 := ⟨_, rfl⟩
          rw [← ef111] at hP hD
          have hP : va_P E.1 gk_cl [(h0, .inr (10, [.int 0, .ref q1, .ref q2, .int kk, .ref q3, .ref q4, .ref q5, .ref q6, .ref q7, .ref q8, .ref q9, .ref q10, .ref q11, .ref q12, .ref q13, .ref q14, .ref q15, .ref q16, .ref q17, .int 0, .int 0, .int 0, .int 0, .ref q18, .ref q19, .ref q20, .ref q21, .int 0, .int 0, .ref q22, .ref q23, .int 0, .int 0, .int 0, .int 0, .int 0, .int 0, .int 0, .int 0, .ref q24, .int 0, .int 0, .int 0, .int 0, .ref q25, .ref q26, .ref q27, .ref q28, .ref q29, .ref q30, .ref q31, .ref q32, .int 0, .int 0, .ref q33, .ref q34, .ref q35, .int 0, .ref q36, .ref q37, .ref q38, .ref q39, .ref q40, .ref q41, .ref q42, .ref q43, .ref q44, .int 0, .ref q45, .ref q46, .ref q47, .ref q48, .ref q49, .int 0, .ref q50, .ref q51, .ref q52, .int 0, .int 0, .ref q53, .ref q54])), (q2, .inl (E.2.1 0, 3000, .inl f111))] H := hP
          have hD : va_D A [(h0, .inr (10, [.int 0, .ref q1, .ref q2, .int kk, .ref q3, .ref q4, .ref q5, .ref q6, .ref q7, .ref q8, .ref q9, .ref q10, .ref q11, .ref q12, .ref q13, .ref q14, .ref q15, .ref q16, .ref q17, .int 0, .int 0, .int 0, .int 0, .ref q18, .ref q19, .ref q20, .ref q21, .int 0, .int 0, .ref q22, .ref q23, .int 0, .int 0, .int 0, .int 0, .int 0, .int 0, .int 0, .int 0, .ref q24, .int 0, .int 0, .int 0, .int 0, .ref q25, .ref q26, .ref q27, .ref q28, .ref q29, .ref q30, .ref q31, .ref q32, .int 0, .int 0, .ref q33, .ref q34, .ref q35, .int 0, .ref q36, .ref q37, .ref q38, .ref q39, .ref q40, .ref q41, .ref q42, .ref q43, .ref q44, .int 0, .ref q45, .ref q46, .ref q47, .ref q48, .ref q49, .int 0, .ref q50, .ref q51, .ref q52, .int 0, .int 0, .ref q53, .ref q54])), (q2, .inl (E.2.1 0, 3000, .inl f111))] := hD
          refine lv_aload_n hx hb d_Mo_sign_64 rfl (lv_at hl 2 rfl) ?_
          refine lv_dup hx hb d_Mo_sign_65 rfl ?_
          refine gk_get (b := h0) (ci := 10) (v := .int kk) X in_Mo hP 0 rfl rfl 3 (by decide) k_1358 rfl d_Mo_sign_66 ?_
          refine lv_iconst (v := 1) hx hb d_Mo_sign_69 (by decide) ?_
          refine lv_iadd hx hb d_Mo_sign_70 ?_
          refine lv_topi (fun x112 ex112 => ?_)
          refine gk_put (b := h0) (ci := 10) (v := .int x112) (ty := t_Mo 3) (ws' := [(h0, .inr (10, [.int 0, .ref q1, .ref q2, .int x112, .ref q3, .ref q4, .ref q5, .ref q6, .ref q7, .ref q8, .ref q9, .ref q10, .ref q11, .ref q12, .ref q13, .ref q14, .ref q15, .ref q16, .ref q17, .int 0, .int 0, .int 0, .int 0, .ref q18, .ref q19, .ref q20, .ref q21, .int 0, .int 0, .ref q22, .ref q23, .int 0, .int 0, .int 0, .int 0, .int 0, .int 0, .int 0, .int 0, .ref q24, .int 0, .int 0, .int 0, .int 0, .ref q25, .ref q26, .ref q27, .ref q28, .ref q29, .ref q30, .ref q31, .ref q32, .int 0, .int 0, .ref q33, .ref q34, .ref q35, .int 0, .ref q36, .ref q37, .ref q38, .ref q39, .ref q40, .ref q41, .ref q42, .ref q43, .ref q44, .int 0, .ref q45, .ref q46, .ref q47, .ref q48, .ref q49, .int 0, .ref q50, .ref q51, .ref q52, .int 0, .int 0, .ref q53, .ref q54])), (q2, .inl (E.2.1 0, 3000, .inl f111))]) X in_Mo t_Mo t_Mo_ok n_Mo hP hD hS 0 rfl rfl 3 (by decide) k_1358 (Or.inl rfl) (t_Mo_ok 3 (by decide)) rfl rfl (Nat.le_of_ble_eq_true rfl) d_Mo_sign_71 rfl (fun H locs hP hD hS => ?_)
          refine lv_iinc (v := 16) (lv' := [(3, .int 16), (4, .int x103), (0, .ref h0), (1, .long cc)]) hx hb d_Mo_sign_74 hl (k := 1) rfl (by decide) (by decide) rfl (fun ls hl => ?_)
          refine lv_goto (tgt := 8) hx hb d_Mo_sign_77 (by decide) ?_
          exact l_Mo_sign_3 l E h0 q1 q2 q3 q4 q5 q6 q7 q8 q9 q10 q11 q12 q13 q14 q15 q16 q17 q18 q19 q20 q21 q22 q23 q24 q25 q26 q27 q28 q29 q30 q31 q32 q33 q34 q35 q36 q37 q38 q39 q40 q41 q42 q43 q44 q45 q46 q47 q48 q49 q50 q51 q52 q53 q54 cc X x112 f111 _ _ _ (by rw [ex112]; exact gk_k2 hk c110) (lv_sub hl [0, 2, 3] rfl) hP hD hS

set_option maxHeartbeats 4000000 in
set_option maxRecDepth 100000 in
theorem l_Mo_sign_5 {p : Program} {e : Env} {s : State} {m : MethodId} {below : List Frame} {meth : Method} {c : Code} {A : Nat → Prop} (l : Launch) (E : gk_E) (h0 : Nat) (q1 : Nat) (q2 : Nat) (q3 : Nat) (q4 : Nat) (q5 : Nat) (q6 : Nat) (q7 : Nat) (q8 : Nat) (q9 : Nat) (q10 : Nat) (q11 : Nat) (q12 : Nat) (q13 : Nat) (q14 : Nat) (q15 : Nat) (q16 : Nat) (q17 : Nat) (q18 : Nat) (q19 : Nat) (q20 : Nat) (q21 : Nat) (q22 : Nat) (q23 : Nat) (q24 : Nat) (q25 : Nat) (q26 : Nat) (q27 : Nat) (q28 : Nat) (q29 : Nat) (q30 : Nat) (q31 : Nat) (q32 : Nat) (q33 : Nat) (q34 : Nat) (q35 : Nat) (q36 : Nat) (q37 : Nat) (q38 : Nat) (q39 : Nat) (q40 : Nat) (q41 : Nat) (q42 : Nat) (q43 : Nat) (q44 : Nat) (q45 : Nat) (q46 : Nat) (q47 : Nat) (q48 : Nat) (q49 : Nat) (q50 : Nat) (q51 : Nat) (q52 : Nat) (q53 : Nat) (q54 : Nat) (cc : Int64) (X : gk_X E p s m ([.ref h0, .long cc] : List Value).toArray meth c y_Mo_sign b_Mo_sign 5 (none) A) : ∀ (kk : Int32) (ff : Nat → Int32) (H : Heap) (locs : List Loc) (ls : Array Slot), ¬ kk < 0 → lv_has ls 5 [(3, .int 32), (0, .ref h0), (1, .long cc)] → va_P E.1 gk_cl [(h0, .inr (10, [.int 0, .ref q1, .ref q2, .int kk, .ref q3, .ref q4, .ref q5, .ref q6, .ref q7, .ref q8, .ref q9, .ref q10, .ref q11, .ref q12, .ref q13, .ref q14, .ref q15, .ref q16, .ref q17, .int 0, .int 0, .int 0, .int 0, .ref q18, .ref q19, .ref q20, .ref q21, .int 0, .int 0, .ref q22, .ref q23, .int 0, .int 0, .int 0, .int 0, .int 0, .int 0, .int 0, .int 0, .ref q24, .int 0, .int 0, .int 0, .int 0, .ref q25, .ref q26, .ref q27, .ref q28, .ref q29, .ref q30, .ref q31, .ref q32, .int 0, .int 0, .ref q33, .ref q34, .ref q35, .int 0, .ref q36, .ref q37, .ref q38, .ref q39, .ref q40, .ref q41, .ref q42, .ref q43, .ref q44, .int 0, .ref q45, .ref q46, .ref q47, .ref q48, .ref q49, .int 0, .ref q50, .ref q51, .ref q52, .int 0, .int 0, .ref q53, .ref q54])), (q2, .inl (E.2.1 0, 3000, .inl ff))] H → va_D A [(h0, .inr (10, [.int 0, .ref q1, .ref q2, .int kk, .ref q3, .ref q4, .ref q5, .ref q6, .ref q7, .ref q8, .ref q9, .ref q10, .ref q11, .ref q12, .ref q13, .ref q14, .ref q15, .ref q16, .ref q17, .int 0, .int 0, .int 0, .int 0, .ref q18, .ref q19, .ref q20, .ref q21, .int 0, .int 0, .ref q22, .ref q23, .int 0, .int 0, .int 0, .int 0, .int 0, .int 0, .int 0, .int 0, .ref q24, .int 0, .int 0, .int 0, .int 0, .ref q25, .ref q26, .ref q27, .ref q28, .ref q29, .ref q30, .ref q31, .ref q32, .int 0, .int 0, .ref q33, .ref q34, .ref q35, .int 0, .ref q36, .ref q37, .ref q38, .ref q39, .ref q40, .ref q41, .ref q42, .ref q43, .ref q44, .int 0, .ref q45, .ref q46, .ref q47, .ref q48, .ref q49, .int 0, .ref q50, .ref q51, .ref q52, .int 0, .int 0, .ref q53, .ref q54])), (q2, .inl (E.2.1 0, 3000, .inl ff))] → va_S A s.heap H locs → W p l e (gk_rm 0 0 0) s m ([.ref h0, .long cc] : List Value).toArray below meth c H locs 0 0 (MQ below (gk_Q E A (fun r w => r = none ∧ w = [])) ([.ref h0, .long cc] : List Value).toArray s 0 0 A) (F0 m 8 ls []) := by
  intro kk ff H locs ls hk hl hP hD hS
  have hx := X.1
  have hb := X.2.1
  have hown := X.2.2.2.1
  have hts := X.2.2.2.2.1
  have hr := X.2.2.2.2.2.2.2.2.1
  have hlocks : meth.locks = false := X.2.2.2.2.2.2.2.2.2.1
  refine lv_iload_n hx hb d_Mo_sign_8 rfl (lv_at hl 0 rfl) ?_
  refine lv_if_lt (tgt := 80) hx hb d_Mo_sign_9 (by decide) (fun c9 => absurd c9 (by decide)) (fun _ => ?_)
  refine lv_lload_n hx hb d_Mo_sign_12 rfl (lv_at hl 2 rfl) ?_
  refine lv_iload_n hx hb d_Mo_sign_13 rfl (lv_at hl 0 rfl) ?_
  refine lv_lshr hx hb d_Mo_sign_14 rfl ?_
  refine lv_topl (fun x101 ex101 => ?_)
  refine lv_ldc2 (own := "JobTextModel") (v := 255) hx hb hown (hts _ k_1604) d_Mo_sign_15 ?_
  refine lv_land hx hb d_Mo_sign_18 ?_
  refine lv_topl (fun x102 ex102 => ?_)
  refine lv_l2i hx hb d_Mo_sign_19 rfl ?_
  refine lv_topi (fun x103 ex103 => ?_)
  refine lv_istore (lv' := [(4, .int x103), (3, .int 32), (0, .ref h0), (1, .long cc)]) hx hb d_Mo_sign_20 hl (by decide) rfl (fun ls hl => ?_)
  refine lv_iload hx hb d_Mo_sign_22 (lv_at hl 0 rfl) ?_
  refine lv_bipush (v := 10) hx hb d_Mo_sign_24 (by decide) ?_
  refine lv_icmp_eq (tgt := 43) hx hb d_Mo_sign_26 (by decide) (fun c104 => ?_) (fun c104 => ?_)
  · refine lv_aload_n hx hb d_Mo_sign_43 rfl (lv_at hl 2 rfl) ?_
    refine gk_get (b := h0) (ci := 10) (v := .int kk) X in_Mo hP 0 rfl rfl 3 (by decide) k_1358 rfl d_Mo_sign_44 ?_
    refine lv_sipush (v := 3000) hx hb d_Mo_sign_47 (by decide) ?_
    refine lv_icmp_ge (tgt := 74) hx hb d_Mo_sign_50 (by decide) (fun c105 => ?_) (fun c105 => ?_)
    · refine lv_iinc (v := 24) (lv' := [(3, .int 24), (4, .int x103), (0, .ref h0), (1, .long cc)]) hx hb d_Mo_sign_74 hl (k := 1) rfl (by decide) (by decide) rfl (fun ls hl => ?_)
      refine lv_goto (tgt := 8) hx hb d_Mo_sign_77 (by decide) ?_
      exact l_Mo_sign_4 l E h0 q1 q2 q3 q4 q5 q6 q7 q8 q9 q10 q11 q12 q13 q14 q15 q16 q17 q18 q19 q20 q21 q22 q23 q24 q25 q26 q27 q28 q29 q30 q31 q32 q33 q34 q35 q36 q37 q38 q39 q40 q41 q42 q43 q44 q45 q46 q47 q48 q49 q50 q51 q52 q53 q54 cc X kk ff _ _ _ hk (lv_sub hl [0, 2, 3] rfl) hP hD hS
    · refine lv_aload_n hx hb d_Mo_sign_53 rfl (lv_at hl 2 rfl) ?_
      refine gk_get (b := h0) (ci := 10) (v := .ref q2) X in_Mo hP 0 rfl rfl 2 (by decide) k_1357 rfl d_Mo_sign_54 ?_
      refine lv_aload_n hx hb d_Mo_sign_57 rfl (lv_at hl 2 rfl) ?_
      refine gk_get (b := h0) (ci := 10) (v := .int kk) X in_Mo hP 0 rfl rfl 3 (by decide) k_1358 rfl d_Mo_sign_58 ?_
      refine lv_iload hx hb d_Mo_sign_61 (lv_at hl 0 rfl) ?_
      refine va_iast hx hb X.2.2.2.2.2.1.1 hP hD hS 1 0 rfl rfl (i := kk) (gk_k0 hk c105) d_Mo_sign_63 (fun H locs hP hD hS => ?_)
      obtain ⟨f106, ef106⟩ : ∃ g, g = upd ff (Int32.toNatClampNeg kk) x103 := ⟨_, rfl⟩
      rw [← ef106] at hP hD
      have hP : va_P E.1 gk_cl [(h0, .inr (10, [.int 0, .ref q1, .ref q2, .int kk, .ref q3, .ref q4, .ref q5, .ref q6, .ref q7, .ref q8, .ref q9, .ref q10, .ref q11, .ref q12, .ref q13, .ref q14, .ref q15, .ref q16, .ref q17, .int 0, .int 0, .int 0, .int 0, .ref q18, .ref q19, .ref q20, .ref q21, .int 0, .int 0, .ref q22, .ref q23, .int 0, .int 0, .int 0, .int 0, .int 0, .int 0, .int 0, .int 0, .ref q24, .int 0, .int 0, .int 0, .int 0, .ref q25, .ref q26, .ref q27, .ref q28, .ref q29, .ref q30, .ref q31, .ref q32, .int 0, .int 0, .ref q33, .ref q34, .ref q35, .int 0, .ref q36, .ref q37, .ref q38, .ref q39, .ref q40, .ref q41, .ref q42, .ref q43, .ref q44, .int 0, .ref q45, .ref q46, .ref q47, .ref q48, .ref q49, .int 0, .ref q50, .ref q51, .ref q52, .int 0, .int 0, .ref q53, .ref q54])), (q2, .inl (E.2.1 0, 3000, .inl f106))] H := hP
      have hD : va_D A [(h0, .inr (10, [.int 0, .ref q1, .ref q2, .int kk, .ref q3, .ref q4, .ref q5, .ref q6, .ref q7, .ref q8, .ref q9, .ref q10, .ref q11, .ref q12, .ref q13, .ref q14, .ref q15, .ref q16, .ref q17, .int 0, .int 0, .int 0, .int 0, .ref q18, .ref q19, .ref q20, .ref q21, .int 0, .int 0, .ref q22, .ref q23, .int 0, .int 0, .int 0, .int 0, .int 0, .int 0, .int 0, .int 0, .ref q24, .int 0, .int 0, .int 0, .int 0, .ref q25, .ref q26, .ref q27, .ref q28, .ref q29, .ref q30, .ref q31, .ref q32, .int 0, .int 0, .ref q33, .ref q34, .ref q35, .int 0, .ref q36, .ref q37, .ref q38, .ref q39, .ref q40, .ref q41, .ref q42, .ref q43, .ref q44, .int 0, .ref q45, .ref q46, .ref q47, .ref q48, .ref q49, .int 0, .ref q50, .ref q51, .ref q52, .int 0, .int 0, .ref q53, .ref q54])), (q2, .inl (E.2.1 0, 3000, .inl f106))] := hD
      refine lv_aload_n hx hb d_Mo_sign_64 rfl (lv_at hl 2 rfl) ?_
      refine lv_dup hx hb d_Mo_sign_65 rfl ?_
      refine gk_get (b := h0) (ci := 10) (v := .int kk) X in_Mo hP 0 rfl rfl 3 (by decide) k_1358 rfl d_Mo_sign_66 ?_
      refine lv_iconst (v := 1) hx hb d_Mo_sign_69 (by decide) ?_
      refine lv_iadd hx hb d_Mo_sign_70 ?_
      refine lv_topi (fun x107 ex107 => ?_)
      refine gk_put (b := h0) (ci := 10) (v := .int x107) (ty := t_Mo 3) (ws' := [(h0, .inr (10, [.int 0, .ref q1, .ref q2, .int x107, .ref q3, .ref q4, .ref q5, .ref q6, .ref q7, .ref q8, .ref q9, .ref q10, .ref q11, .ref q12, .ref q13, .ref q14, .ref q15, .ref q16, .ref q17, .int 0, .int 0, .int 0, .int 0, .ref q18, .ref q19, .ref q20, .ref q21, .int 0, .int 0, .ref q22, .ref q23, .int 0, .int 0, .int 0, .int 0, .int 0, .int 0, .int 0, .int 0, .ref q24, .int 0, .int 0, .int 0, .int 0, .ref q25, .ref q26, .ref q27, .ref q28, .ref q29, .ref q30, .ref q31, .ref q32, .int 0, .int 0, .ref q33, .ref q34, .ref q35, .int 0, .ref q36, .ref q37, .ref q38, .ref q39, .ref q40, .ref q41, .ref q42, .ref q43, .ref q44, .int 0, .ref q45, .ref q46, .ref q47, .ref q48, .ref q49, .int 0, .ref q50, .ref q51, .ref q52, .int 0, .int 0, .ref q53, .ref q54])), (q2, .inl (E.2.1 0, 3000, .inl f106))]) X in_Mo t_Mo t_Mo_ok n_Mo hP hD hS 0 rfl rfl 3 (by decide) k_1358 (Or.inl rfl) (t_Mo_ok 3 (by decide)) rfl rfl (Nat.le_of_ble_eq_true rfl) d_Mo_sign_71 rfl (fun H locs hP hD hS => ?_)
      refine lv_iinc (v := 24) (lv' := [(3, .int 24), (4, .int x103), (0, .ref h0), (1, .long cc)]) hx hb d_Mo_sign_74 hl (k := 1) rfl (by decide) (by decide) rfl (fun ls hl => ?_)
      refine lv_goto (tgt := 8) hx hb d_Mo_sign_77 (by decide) ?_
      exact l_Mo_sign_4 l E h0 q1 q2 q3 q4 q5 q6 q7 q8 q9 q10 q11 q12 q13 q14 q15 q16 q17 q18 q19 q20 q21 q22 q23 q24 q25 q26 q27 q28 q29 q30 q31 q32 q33 q34 q35 q36 q37 q38 q39 q40 q41 q42 q43 q44 q45 q46 q47 q48 q49 q50 q51 q52 q53 q54 cc X x107 f106 _ _ _ (by rw [ex107]; exact gk_k2 hk c105) (lv_sub hl [0, 2, 3] rfl) hP hD hS
  · refine lv_iload hx hb d_Mo_sign_29 (lv_at hl 0 rfl) ?_
    refine lv_bipush (v := 32) hx hb d_Mo_sign_31 (by decide) ?_
    refine lv_icmp_lt (tgt := 74) hx hb d_Mo_sign_33 (by decide) (fun c108 => ?_) (fun c108 => ?_)
    · refine lv_iinc (v := 24) (lv' := [(3, .int 24), (4, .int x103), (0, .ref h0), (1, .long cc)]) hx hb d_Mo_sign_74 hl (k := 1) rfl (by decide) (by decide) rfl (fun ls hl => ?_)
      refine lv_goto (tgt := 8) hx hb d_Mo_sign_77 (by decide) ?_
      exact l_Mo_sign_4 l E h0 q1 q2 q3 q4 q5 q6 q7 q8 q9 q10 q11 q12 q13 q14 q15 q16 q17 q18 q19 q20 q21 q22 q23 q24 q25 q26 q27 q28 q29 q30 q31 q32 q33 q34 q35 q36 q37 q38 q39 q40 q41 q42 q43 q44 q45 q46 q47 q48 q49 q50 q51 q52 q53 q54 cc X kk ff _ _ _ hk (lv_sub hl [0, 2, 3] rfl) hP hD hS
    · refine lv_iload hx hb d_Mo_sign_36 (lv_at hl 0 rfl) ?_
      refine lv_bipush (v := 126) hx hb d_Mo_sign_38 (by decide) ?_
      refine lv_icmp_gt (tgt := 74) hx hb d_Mo_sign_40 (by decide) (fun c109 => ?_) (fun c109 => ?_)
      · refine lv_iinc (v := 24) (lv' := [(3, .int 24), (4, .int x103), (0, .ref h0), (1, .long cc)]) hx hb d_Mo_sign_74 hl (k := 1) rfl (by decide) (by decide) rfl (fun ls hl => ?_)
        refine lv_goto (tgt := 8) hx hb d_Mo_sign_77 (by decide) ?_
        exact l_Mo_sign_4 l E h0 q1 q2 q3 q4 q5 q6 q7 q8 q9 q10 q11 q12 q13 q14 q15 q16 q17 q18 q19 q20 q21 q22 q23 q24 q25 q26 q27 q28 q29 q30 q31 q32 q33 q34 q35 q36 q37 q38 q39 q40 q41 q42 q43 q44 q45 q46 q47 q48 q49 q50 q51 q52 q53 q54 cc X kk ff _ _ _ hk (lv_sub hl [0, 2, 3] rfl) hP hD hS
      · refine lv_aload_n hx hb d_Mo_sign_43 rfl (lv_at hl 2 rfl) ?_
        refine gk_get (b := h0) (ci := 10) (v := .int kk) X in_Mo hP 0 rfl rfl 3 (by decide) k_1358 rfl d_Mo_sign_44 ?_
        refine lv_sipush (v := 3000) hx hb d_Mo_sign_47 (by decide) ?_
        refine lv_icmp_ge (tgt := 74) hx hb d_Mo_sign_50 (by decide) (fun c110 => ?_) (fun c110 => ?_)
        · refine lv_iinc (v := 24) (lv' := [(3, .int 24), (4, .int x103), (0, .ref h0), (1, .long cc)]) hx hb d_Mo_sign_74 hl (k := 1) rfl (by decide) (by decide) rfl (fun ls hl => ?_)
          refine lv_goto (tgt := 8) hx hb d_Mo_sign_77 (by decide) ?_
          exact l_Mo_sign_4 l E h0 q1 q2 q3 q4 q5 q6 q7 q8 q9 q10 q11 q12 q13 q14 q15 q16 q17 q18 q19 q20 q21 q22 q23 q24 q25 q26 q27 q28 q29 q30 q31 q32 q33 q34 q35 q36 q37 q38 q39 q40 q41 q42 q43 q44 q45 q46 q47 q48 q49 q50 q51 q52 q53 q54 cc X kk ff _ _ _ hk (lv_sub hl [0, 2, 3] rfl) hP hD hS
        · refine lv_aload_n hx hb d_Mo_sign_53 rfl (lv_at hl 2 rfl) ?_
          refine gk_get (b := h0) (ci := 10) (v := .ref q2) X in_Mo hP 0 rfl rfl 2 (by decide) k_1357 rfl d_Mo_sign_54 ?_
          refine lv_aload_n hx hb d_Mo_sign_57 rfl (lv_at hl 2 rfl) ?_
          refine gk_get (b := h0) (ci := 10) (v := .int kk) X in_Mo hP 0 rfl rfl 3 (by decide) k_1358 rfl d_Mo_sign_58 ?_
          refine lv_iload hx hb d_Mo_sign_61 (lv_at hl 0 rfl) ?_
          refine va_iast hx hb X.2.2.2.2.2.1.1 hP hD hS 1 0 rfl rfl (i := kk) (gk_k0 hk c110) d_Mo_sign_63 (fun H locs hP hD hS => ?_)
          obtain ⟨f111, ef111⟩ : ∃ g, g = upd ff (Int32.toNatClampNeg kk) x103 := ⟨_, rfl⟩
          rw [← ef111] at hP hD
          have hP : va_P E.1 gk_cl [(h0, .inr (10, [.int 0, .ref q1, .ref q2, .int kk, .ref q3, .ref q4, .ref q5, .ref q6, .ref q7, .ref q8, .ref q9, .ref q10, .ref q11, .ref q12, .ref q13, .ref q14, .ref q15, .ref q16, .ref q17, .int 0, .int 0, .int 0, .int 0, .ref q18, .ref q19, .ref q20, .ref q21, .int 0, .int 0, .ref q22, .ref q23, .int 0, .int 0, .int 0, .int 0, .int 0, .int 0, .int 0, .int 0, .ref q24, .int 0, .int 0, .int 0, .int 0, .ref q25, .ref q26, .ref q27, .ref q28, .ref q29, .ref q30, .ref q31, .ref q32, .int 0, .int 0, .ref q33, .ref q34, .ref q35, .int 0, .ref q36, .ref q37, .ref q38, .ref q39, .ref q40, .ref q41, .ref q42, .ref q43, .ref q44, .int 0, .ref q45, .ref q46, .ref q47, .ref q48, .ref q49, .int 0, .ref q50, .ref q51, .ref q52, .int 0, .int 0, .ref q53, .ref q54])), (q2, .inl (E.2.1 0, 3000, .inl f111))] H := hP
          have hD : va_D A [(h0, .inr (10, [.int 0, .ref q1, .ref q2, .int kk, .ref q3, .ref q4, .ref q5, .ref q6, .ref q7, .ref q8, .ref q9, .ref q10, .ref q11, .ref q12, .ref q13, .ref q14, .ref q15, .ref q16, .ref q17, .int 0, .int 0, .int 0, .int 0, .ref q18, .ref q19, .ref q20, .ref q21, .int 0, .int 0, .ref q22, .ref q23, .int 0, .int 0, .int 0, .int 0, .int 0, .int 0, .int 0, .int 0, .ref q24, .int 0, .int 0, .int 0, .int 0, .ref q25, .ref q26, .ref q27, .ref q28, .ref q29, .ref q30, .ref q31, .ref q32, .int 0, .int 0, .ref q33, .ref q34, .ref q35, .int 0, .ref q36, .ref q37, .ref q38, .ref q39, .ref q40, .ref q41, .ref q42, .ref q43, .ref q44, .int 0, .ref q45, .ref q46, .ref q47, .ref q48, .ref q49, .int 0, .ref q50, .ref q51, .ref q52, .int 0, .int 0, .ref q53, .ref q54])), (q2, .inl (E.2.1 0, 3000, .inl f111))] := hD
          refine lv_aload_n hx hb d_Mo_sign_64 rfl (lv_at hl 2 rfl) ?_
          refine lv_dup hx hb d_Mo_sign_65 rfl ?_
          refine gk_get (b := h0) (ci := 10) (v := .int kk) X in_Mo hP 0 rfl rfl 3 (by decide) k_1358 rfl d_Mo_sign_66 ?_
          refine lv_iconst (v := 1) hx hb d_Mo_sign_69 (by decide) ?_
          refine lv_iadd hx hb d_Mo_sign_70 ?_
          refine lv_topi (fun x112 ex112 => ?_)
          refine gk_put (b := h0) (ci := 10) (v := .int x112) (ty := t_Mo 3) (ws' := [(h0, .inr (10, [.int 0, .ref q1, .ref q2, .int x112, .ref q3, .ref q4, .ref q5, .ref q6, .ref q7, .ref q8, .ref q9, .ref q10, .ref q11, .ref q12, .ref q13, .ref q14, .ref q15, .ref q16, .ref q17, .int 0, .int 0, .int 0, .int 0, .ref q18, .ref q19, .ref q20, .ref q21, .int 0, .int 0, .ref q22, .ref q23, .int 0, .int 0, .int 0, .int 0, .int 0, .int 0, .int 0, .int 0, .ref q24, .int 0, .int 0, .int 0, .int 0, .ref q25, .ref q26, .ref q27, .ref q28, .ref q29, .ref q30, .ref q31, .ref q32, .int 0, .int 0, .ref q33, .ref q34, .ref q35, .int 0, .ref q36, .ref q37, .ref q38, .ref q39, .ref q40, .ref q41, .ref q42, .ref q43, .ref q44, .int 0, .ref q45, .ref q46, .ref q47, .ref q48, .ref q49, .int 0, .ref q50, .ref q51, .ref q52, .int 0, .int 0, .ref q53, .ref q54])), (q2, .inl (E.2.1 0, 3000, .inl f111))]) X in_Mo t_Mo t_Mo_ok n_Mo hP hD hS 0 rfl rfl 3 (by decide) k_1358 (Or.inl rfl) (t_Mo_ok 3 (by decide)) rfl rfl (Nat.le_of_ble_eq_true rfl) d_Mo_sign_71 rfl (fun H locs hP hD hS => ?_)
          refine lv_iinc (v := 24) (lv' := [(3, .int 24), (4, .int x103), (0, .ref h0), (1, .long cc)]) hx hb d_Mo_sign_74 hl (k := 1) rfl (by decide) (by decide) rfl (fun ls hl => ?_)
          refine lv_goto (tgt := 8) hx hb d_Mo_sign_77 (by decide) ?_
          exact l_Mo_sign_4 l E h0 q1 q2 q3 q4 q5 q6 q7 q8 q9 q10 q11 q12 q13 q14 q15 q16 q17 q18 q19 q20 q21 q22 q23 q24 q25 q26 q27 q28 q29 q30 q31 q32 q33 q34 q35 q36 q37 q38 q39 q40 q41 q42 q43 q44 q45 q46 q47 q48 q49 q50 q51 q52 q53 q54 cc X x112 f111 _ _ _ (by rw [ex112]; exact gk_k2 hk c110) (lv_sub hl [0, 2, 3] rfl) hP hD hS

set_option maxHeartbeats 4000000 in
set_option maxRecDepth 100000 in
theorem l_Mo_sign_6 {p : Program} {e : Env} {s : State} {m : MethodId} {below : List Frame} {meth : Method} {c : Code} {A : Nat → Prop} (l : Launch) (E : gk_E) (h0 : Nat) (q1 : Nat) (q2 : Nat) (q3 : Nat) (q4 : Nat) (q5 : Nat) (q6 : Nat) (q7 : Nat) (q8 : Nat) (q9 : Nat) (q10 : Nat) (q11 : Nat) (q12 : Nat) (q13 : Nat) (q14 : Nat) (q15 : Nat) (q16 : Nat) (q17 : Nat) (q18 : Nat) (q19 : Nat) (q20 : Nat) (q21 : Nat) (q22 : Nat) (q23 : Nat) (q24 : Nat) (q25 : Nat) (q26 : Nat) (q27 : Nat) (q28 : Nat) (q29 : Nat) (q30 : Nat) (q31 : Nat) (q32 : Nat) (q33 : Nat) (q34 : Nat) (q35 : Nat) (q36 : Nat) (q37 : Nat) (q38 : Nat) (q39 : Nat) (q40 : Nat) (q41 : Nat) (q42 : Nat) (q43 : Nat) (q44 : Nat) (q45 : Nat) (q46 : Nat) (q47 : Nat) (q48 : Nat) (q49 : Nat) (q50 : Nat) (q51 : Nat) (q52 : Nat) (q53 : Nat) (q54 : Nat) (cc : Int64) (X : gk_X E p s m ([.ref h0, .long cc] : List Value).toArray meth c y_Mo_sign b_Mo_sign 5 (none) A) : ∀ (kk : Int32) (ff : Nat → Int32) (H : Heap) (locs : List Loc) (ls : Array Slot), ¬ kk < 0 → lv_has ls 5 [(3, .int 40), (0, .ref h0), (1, .long cc)] → va_P E.1 gk_cl [(h0, .inr (10, [.int 0, .ref q1, .ref q2, .int kk, .ref q3, .ref q4, .ref q5, .ref q6, .ref q7, .ref q8, .ref q9, .ref q10, .ref q11, .ref q12, .ref q13, .ref q14, .ref q15, .ref q16, .ref q17, .int 0, .int 0, .int 0, .int 0, .ref q18, .ref q19, .ref q20, .ref q21, .int 0, .int 0, .ref q22, .ref q23, .int 0, .int 0, .int 0, .int 0, .int 0, .int 0, .int 0, .int 0, .ref q24, .int 0, .int 0, .int 0, .int 0, .ref q25, .ref q26, .ref q27, .ref q28, .ref q29, .ref q30, .ref q31, .ref q32, .int 0, .int 0, .ref q33, .ref q34, .ref q35, .int 0, .ref q36, .ref q37, .ref q38, .ref q39, .ref q40, .ref q41, .ref q42, .ref q43, .ref q44, .int 0, .ref q45, .ref q46, .ref q47, .ref q48, .ref q49, .int 0, .ref q50, .ref q51, .ref q52, .int 0, .int 0, .ref q53, .ref q54])), (q2, .inl (E.2.1 0, 3000, .inl ff))] H → va_D A [(h0, .inr (10, [.int 0, .ref q1, .ref q2, .int kk, .ref q3, .ref q4, .ref q5, .ref q6, .ref q7, .ref q8, .ref q9, .ref q10, .ref q11, .ref q12, .ref q13, .ref q14, .ref q15, .ref q16, .ref q17, .int 0, .int 0, .int 0, .int 0, .ref q18, .ref q19, .ref q20, .ref q21, .int 0, .int 0, .ref q22, .ref q23, .int 0, .int 0, .int 0, .int 0, .int 0, .int 0, .int 0, .int 0, .ref q24, .int 0, .int 0, .int 0, .int 0, .ref q25, .ref q26, .ref q27, .ref q28, .ref q29, .ref q30, .ref q31, .ref q32, .int 0, .int 0, .ref q33, .ref q34, .ref q35, .int 0, .ref q36, .ref q37, .ref q38, .ref q39, .ref q40, .ref q41, .ref q42, .ref q43, .ref q44, .int 0, .ref q45, .ref q46, .ref q47, .ref q48, .ref q49, .int 0, .ref q50, .ref q51, .ref q52, .int 0, .int 0, .ref q53, .ref q54])), (q2, .inl (E.2.1 0, 3000, .inl ff))] → va_S A s.heap H locs → W p l e (gk_rm 0 0 0) s m ([.ref h0, .long cc] : List Value).toArray below meth c H locs 0 0 (MQ below (gk_Q E A (fun r w => r = none ∧ w = [])) ([.ref h0, .long cc] : List Value).toArray s 0 0 A) (F0 m 8 ls []) := by
  intro kk ff H locs ls hk hl hP hD hS
  have hx := X.1
  have hb := X.2.1
  have hown := X.2.2.2.1
  have hts := X.2.2.2.2.1
  have hr := X.2.2.2.2.2.2.2.2.1
  have hlocks : meth.locks = false := X.2.2.2.2.2.2.2.2.2.1
  refine lv_iload_n hx hb d_Mo_sign_8 rfl (lv_at hl 0 rfl) ?_
  refine lv_if_lt (tgt := 80) hx hb d_Mo_sign_9 (by decide) (fun c9 => absurd c9 (by decide)) (fun _ => ?_)
  refine lv_lload_n hx hb d_Mo_sign_12 rfl (lv_at hl 2 rfl) ?_
  refine lv_iload_n hx hb d_Mo_sign_13 rfl (lv_at hl 0 rfl) ?_
  refine lv_lshr hx hb d_Mo_sign_14 rfl ?_
  refine lv_topl (fun x101 ex101 => ?_)
  refine lv_ldc2 (own := "JobTextModel") (v := 255) hx hb hown (hts _ k_1604) d_Mo_sign_15 ?_
  refine lv_land hx hb d_Mo_sign_18 ?_
  refine lv_topl (fun x102 ex102 => ?_)
  refine lv_l2i hx hb d_Mo_sign_19 rfl ?_
  refine lv_topi (fun x103 ex103 => ?_)
  refine lv_istore (lv' := [(4, .int x103), (3, .int 40), (0, .ref h0), (1, .long cc)]) hx hb d_Mo_sign_20 hl (by decide) rfl (fun ls hl => ?_)
  refine lv_iload hx hb d_Mo_sign_22 (lv_at hl 0 rfl) ?_
  refine lv_bipush (v := 10) hx hb d_Mo_sign_24 (by decide) ?_
  refine lv_icmp_eq (tgt := 43) hx hb d_Mo_sign_26 (by decide) (fun c104 => ?_) (fun c104 => ?_)
  · refine lv_aload_n hx hb d_Mo_sign_43 rfl (lv_at hl 2 rfl) ?_
    refine gk_get (b := h0) (ci := 10) (v := .int kk) X in_Mo hP 0 rfl rfl 3 (by decide) k_1358 rfl d_Mo_sign_44 ?_
    refine lv_sipush (v := 3000) hx hb d_Mo_sign_47 (by decide) ?_
    refine lv_icmp_ge (tgt := 74) hx hb d_Mo_sign_50 (by decide) (fun c105 => ?_) (fun c105 => ?_)
    · refine lv_iinc (v := 32) (lv' := [(3, .int 32), (4, .int x103), (0, .ref h0), (1, .long cc)]) hx hb d_Mo_sign_74 hl (k := 1) rfl (by decide) (by decide) rfl (fun ls hl => ?_)
      refine lv_goto (tgt := 8) hx hb d_Mo_sign_77 (by decide) ?_
      exact l_Mo_sign_5 l E h0 q1 q2 q3 q4 q5 q6 q7 q8 q9 q10 q11 q12 q13 q14 q15 q16 q17 q18 q19 q20 q21 q22 q23 q24 q25 q26 q27 q28 q29 q30 q31 q32 q33 q34 q35 q36 q37 q38 q39 q40 q41 q42 q43 q44 q45 q46 q47 q48 q49 q50 q51 q52 q53 q54 cc X kk ff _ _ _ hk (lv_sub hl [0, 2, 3] rfl) hP hD hS
    · refine lv_aload_n hx hb d_Mo_sign_53 rfl (lv_at hl 2 rfl) ?_
      refine gk_get (b := h0) (ci := 10) (v := .ref q2) X in_Mo hP 0 rfl rfl 2 (by decide) k_1357 rfl d_Mo_sign_54 ?_
      refine lv_aload_n hx hb d_Mo_sign_57 rfl (lv_at hl 2 rfl) ?_
      refine gk_get (b := h0) (ci := 10) (v := .int kk) X in_Mo hP 0 rfl rfl 3 (by decide) k_1358 rfl d_Mo_sign_58 ?_
      refine lv_iload hx hb d_Mo_sign_61 (lv_at hl 0 rfl) ?_
      refine va_iast hx hb X.2.2.2.2.2.1.1 hP hD hS 1 0 rfl rfl (i := kk) (gk_k0 hk c105) d_Mo_sign_63 (fun H locs hP hD hS => ?_)
      obtain ⟨f106, ef106⟩ : ∃ g, g = upd ff (Int32.toNatClampNeg kk) x103 := ⟨_, rfl⟩
      rw [← ef106] at hP hD
      have hP : va_P E.1 gk_cl [(h0, .inr (10, [.int 0, .ref q1, .ref q2, .int kk, .ref q3, .ref q4, .ref q5, .ref q6, .ref q7, .ref q8, .ref q9, .ref q10, .ref q11, .ref q12, .ref q13, .ref q14, .ref q15, .ref q16, .ref q17, .int 0, .int 0, .int 0, .int 0, .ref q18, .ref q19, .ref q20, .ref q21, .int 0, .int 0, .ref q22, .ref q23, .int 0, .int 0, .int 0, .int 0, .int 0, .int 0, .int 0, .int 0, .ref q24, .int 0, .int 0, .int 0, .int 0, .ref q25, .ref q26, .ref q27, .ref q28, .ref q29, .ref q30, .ref q31, .ref q32, .int 0, .int 0, .ref q33, .ref q34, .ref q35, .int 0, .ref q36, .ref q37, .ref q38, .ref q39, .ref q40, .ref q41, .ref q42, .ref q43, .ref q44, .int 0, .ref q45, .ref q46, .ref q47, .ref q48, .ref q49, .int 0, .ref q50, .ref q51, .ref q52, .int 0, .int 0, .ref q53, .ref q54])), (q2, .inl (E.2.1 0, 3000, .inl f106))] H := hP
      have hD : va_D A [(h0, .inr (10, [.int 0, .ref q1, .ref q2, .int kk, .ref q3, .ref q4, .ref q5, .ref q6, .ref q7, .ref q8, .ref q9, .ref q10, .ref q11, .ref q12, .ref q13, .ref q14, .ref q15, .ref q16, .ref q17, .int 0, .int 0, .int 0, .int 0, .ref q18, .ref q19, .ref q20, .ref q21, .int 0, .int 0, .ref q22, .ref q23, .int 0, .int 0, .int 0, .int 0, .int 0, .int 0, .int 0, .int 0, .ref q24, .int 0, .int 0, .int 0, .int 0, .ref q25, .ref q26, .ref q27, .ref q28, .ref q29, .ref q30, .ref q31, .ref q32, .int 0, .int 0, .ref q33, .ref q34, .ref q35, .int 0, .ref q36, .ref q37, .ref q38, .ref q39, .ref q40, .ref q41, .ref q42, .ref q43, .ref q44, .int 0, .ref q45, .ref q46, .ref q47, .ref q48, .ref q49, .int 0, .ref q50, .ref q51, .ref q52, .int 0, .int 0, .ref q53, .ref q54])), (q2, .inl (E.2.1 0, 3000, .inl f106))] := hD
      refine lv_aload_n hx hb d_Mo_sign_64 rfl (lv_at hl 2 rfl) ?_
      refine lv_dup hx hb d_Mo_sign_65 rfl ?_
      refine gk_get (b := h0) (ci := 10) (v := .int kk) X in_Mo hP 0 rfl rfl 3 (by decide) k_1358 rfl d_Mo_sign_66 ?_
      refine lv_iconst (v := 1) hx hb d_Mo_sign_69 (by decide) ?_
      refine lv_iadd hx hb d_Mo_sign_70 ?_
      refine lv_topi (fun x107 ex107 => ?_)
      refine gk_put (b := h0) (ci := 10) (v := .int x107) (ty := t_Mo 3) (ws' := [(h0, .inr (10, [.int 0, .ref q1, .ref q2, .int x107, .ref q3, .ref q4, .ref q5, .ref q6, .ref q7, .ref q8, .ref q9, .ref q10, .ref q11, .ref q12, .ref q13, .ref q14, .ref q15, .ref q16, .ref q17, .int 0, .int 0, .int 0, .int 0, .ref q18, .ref q19, .ref q20, .ref q21, .int 0, .int 0, .ref q22, .ref q23, .int 0, .int 0, .int 0, .int 0, .int 0, .int 0, .int 0, .int 0, .ref q24, .int 0, .int 0, .int 0, .int 0, .ref q25, .ref q26, .ref q27, .ref q28, .ref q29, .ref q30, .ref q31, .ref q32, .int 0, .int 0, .ref q33, .ref q34, .ref q35, .int 0, .ref q36, .ref q37, .ref q38, .ref q39, .ref q40, .ref q41, .ref q42, .ref q43, .ref q44, .int 0, .ref q45, .ref q46, .ref q47, .ref q48, .ref q49, .int 0, .ref q50, .ref q51, .ref q52, .int 0, .int 0, .ref q53, .ref q54])), (q2, .inl (E.2.1 0, 3000, .inl f106))]) X in_Mo t_Mo t_Mo_ok n_Mo hP hD hS 0 rfl rfl 3 (by decide) k_1358 (Or.inl rfl) (t_Mo_ok 3 (by decide)) rfl rfl (Nat.le_of_ble_eq_true rfl) d_Mo_sign_71 rfl (fun H locs hP hD hS => ?_)
      refine lv_iinc (v := 32) (lv' := [(3, .int 32), (4, .int x103), (0, .ref h0), (1, .long cc)]) hx hb d_Mo_sign_74 hl (k := 1) rfl (by decide) (by decide) rfl (fun ls hl => ?_)
      refine lv_goto (tgt := 8) hx hb d_Mo_sign_77 (by decide) ?_
      exact l_Mo_sign_5 l E h0 q1 q2 q3 q4 q5 q6 q7 q8 q9 q10 q11 q12 q13 q14 q15 q16 q17 q18 q19 q20 q21 q22 q23 q24 q25 q26 q27 q28 q29 q30 q31 q32 q33 q34 q35 q36 q37 q38 q39 q40 q41 q42 q43 q44 q45 q46 q47 q48 q49 q50 q51 q52 q53 q54 cc X x107 f106 _ _ _ (by rw [ex107]; exact gk_k2 hk c105) (lv_sub hl [0, 2, 3] rfl) hP hD hS
  · refine lv_iload hx hb d_Mo_sign_29 (lv_at hl 0 rfl) ?_
    refine lv_bipush (v := 32) hx hb d_Mo_sign_31 (by decide) ?_
    refine lv_icmp_lt (tgt := 74) hx hb d_Mo_sign_33 (by decide) (fun c108 => ?_) (fun c108 => ?_)
    · refine lv_iinc (v := 32) (lv' := [(3, .int 32), (4, .int x103), (0, .ref h0), (1, .long cc)]) hx hb d_Mo_sign_74 hl (k := 1) rfl (by decide) (by decide) rfl (fun ls hl => ?_)
      refine lv_goto (tgt := 8) hx hb d_Mo_sign_77 (by decide) ?_
      exact l_Mo_sign_5 l E h0 q1 q2 q3 q4 q5 q6 q7 q8 q9 q10 q11 q12 q13 q14 q15 q16 q17 q18 q19 q20 q21 q22 q23 q24 q25 q26 q27 q28 q29 q30 q31 q32 q33 q34 q35 q36 q37 q38 q39 q40 q41 q42 q43 q44 q45 q46 q47 q48 q49 q50 q51 q52 q53 q54 cc X kk ff _ _ _ hk (lv_sub hl [0, 2, 3] rfl) hP hD hS
    · refine lv_iload hx hb d_Mo_sign_36 (lv_at hl 0 rfl) ?_
      refine lv_bipush (v := 126) hx hb d_Mo_sign_38 (by decide) ?_
      refine lv_icmp_gt (tgt := 74) hx hb d_Mo_sign_40 (by decide) (fun c109 => ?_) (fun c109 => ?_)
      · refine lv_iinc (v := 32) (lv' := [(3, .int 32), (4, .int x103), (0, .ref h0), (1, .long cc)]) hx hb d_Mo_sign_74 hl (k := 1) rfl (by decide) (by decide) rfl (fun ls hl => ?_)
        refine lv_goto (tgt := 8) hx hb d_Mo_sign_77 (by decide) ?_
        exact l_Mo_sign_5 l E h0 q1 q2 q3 q4 q5 q6 q7 q8 q9 q10 q11 q12 q13 q14 q15 q16 q17 q18 q19 q20 q21 q22 q23 q24 q25 q26 q27 q28 q29 q30 q31 q32 q33 q34 q35 q36 q37 q38 q39 q40 q41 q42 q43 q44 q45 q46 q47 q48 q49 q50 q51 q52 q53 q54 cc X kk ff _ _ _ hk (lv_sub hl [0, 2, 3] rfl) hP hD hS
      · refine lv_aload_n hx hb d_Mo_sign_43 rfl (lv_at hl 2 rfl) ?_
        refine gk_get (b := h0) (ci := 10) (v := .int kk) X in_Mo hP 0 rfl rfl 3 (by decide) k_1358 rfl d_Mo_sign_44 ?_
        refine lv_sipush (v := 3000) hx hb d_Mo_sign_47 (by decide) ?_
        refine lv_icmp_ge (tgt := 74) hx hb d_Mo_sign_50 (by decide) (fun c110 => ?_) (fun c110 => ?_)
        · refine lv_iinc (v := 32) (lv' := [(3, .int 32), (4, .int x103), (0, .ref h0), (1, .long cc)]) hx hb d_Mo_sign_74 hl (k := 1) rfl (by decide) (by decide) rfl (fun ls hl => ?_)
          refine lv_goto (tgt := 8) hx hb d_Mo_sign_77 (by decide) ?_
          exact l_Mo_sign_5 l E h0 q1 q2 q3 q4 q5 q6 q7 q8 q9 q10 q11 q12 q13 q14 q15 q16 q17 q18 q19 q20 q21 q22 q23 q24 q25 q26 q27 q28 q29 q30 q31 q32 q33 q34 q35 q36 q37 q38 q39 q40 q41 q42 q43 q44 q45 q46 q47 q48 q49 q50 q51 q52 q53 q54 cc X kk ff _ _ _ hk (lv_sub hl [0, 2, 3] rfl) hP hD hS
        · refine lv_aload_n hx hb d_Mo_sign_53 rfl (lv_at hl 2 rfl) ?_
          refine gk_get (b := h0) (ci := 10) (v := .ref q2) X in_Mo hP 0 rfl rfl 2 (by decide) k_1357 rfl d_Mo_sign_54 ?_
          refine lv_aload_n hx hb d_Mo_sign_57 rfl (lv_at hl 2 rfl) ?_
          refine gk_get (b := h0) (ci := 10) (v := .int kk) X in_Mo hP 0 rfl rfl 3 (by decide) k_1358 rfl d_Mo_sign_58 ?_
          refine lv_iload hx hb d_Mo_sign_61 (lv_at hl 0 rfl) ?_
          refine va_iast hx hb X.2.2.2.2.2.1.1 hP hD hS 1 0 rfl rfl (i := kk) (gk_k0 hk c110) d_Mo_sign_63 (fun H locs hP hD hS => ?_)
          obtain ⟨f111, ef111⟩ : ∃ g, g = upd ff (Int32.toNatClampNeg kk) x103 := ⟨_, rfl⟩
          rw [← ef111] at hP hD
          have hP : va_P E.1 gk_cl [(h0, .inr (10, [.int 0, .ref q1, .ref q2, .int kk, .ref q3, .ref q4, .ref q5, .ref q6, .ref q7, .ref q8, .ref q9, .ref q10, .ref q11, .ref q12, .ref q13, .ref q14, .ref q15, .ref q16, .ref q17, .int 0, .int 0, .int 0, .int 0, .ref q18, .ref q19, .ref q20, .ref q21, .int 0, .int 0, .ref q22, .ref q23, .int 0, .int 0, .int 0, .int 0, .int 0, .int 0, .int 0, .int 0, .ref q24, .int 0, .int 0, .int 0, .int 0, .ref q25, .ref q26, .ref q27, .ref q28, .ref q29, .ref q30, .ref q31, .ref q32, .int 0, .int 0, .ref q33, .ref q34, .ref q35, .int 0, .ref q36, .ref q37, .ref q38, .ref q39, .ref q40, .ref q41, .ref q42, .ref q43, .ref q44, .int 0, .ref q45, .ref q46, .ref q47, .ref q48, .ref q49, .int 0, .ref q50, .ref q51, .ref q52, .int 0, .int 0, .ref q53, .ref q54])), (q2, .inl (E.2.1 0, 3000, .inl f111))] H := hP
          have hD : va_D A [(h0, .inr (10, [.int 0, .ref q1, .ref q2, .int kk, .ref q3, .ref q4, .ref q5, .ref q6, .ref q7, .ref q8, .ref q9, .ref q10, .ref q11, .ref q12, .ref q13, .ref q14, .ref q15, .ref q16, .ref q17, .int 0, .int 0, .int 0, .int 0, .ref q18, .ref q19, .ref q20, .ref q21, .int 0, .int 0, .ref q22, .ref q23, .int 0, .int 0, .int 0, .int 0, .int 0, .int 0, .int 0, .int 0, .ref q24, .int 0, .int 0, .int 0, .int 0, .ref q25, .ref q26, .ref q27, .ref q28, .ref q29, .ref q30, .ref q31, .ref q32, .int 0, .int 0, .ref q33, .ref q34, .ref q35, .int 0, .ref q36, .ref q37, .ref q38, .ref q39, .ref q40, .ref q41, .ref q42, .ref q43, .ref q44, .int 0, .ref q45, .ref q46, .ref q47, .ref q48, .ref q49, .int 0, .ref q50, .ref q51, .ref q52, .int 0, .int 0, .ref q53, .ref q54])), (q2, .inl (E.2.1 0, 3000, .inl f111))] := hD
          refine lv_aload_n hx hb d_Mo_sign_64 rfl (lv_at hl 2 rfl) ?_
          refine lv_dup hx hb d_Mo_sign_65 rfl ?_
          refine gk_get (b := h0) (ci := 10) (v := .int kk) X in_Mo hP 0 rfl rfl 3 (by decide) k_1358 rfl d_Mo_sign_66 ?_
          refine lv_iconst (v := 1) hx hb d_Mo_sign_69 (by decide) ?_
          refine lv_iadd hx hb d_Mo_sign_70 ?_
          refine lv_topi (fun x112 ex112 => ?_)
          refine gk_put (b := h0) (ci := 10) (v := .int x112) (ty := t_Mo 3) (ws' := [(h0, .inr (10, [.int 0, .ref q1, .ref q2, .int x112, .ref q3, .ref q4, .ref q5, .ref q6, .ref q7, .ref q8, .ref q9, .ref q10, .ref q11, .ref q12, .ref q13, .ref q14, .ref q15, .ref q16, .ref q17, .int 0, .int 0, .int 0, .int 0, .ref q18, .ref q19, .ref q20, .ref q21, .int 0, .int 0, .ref q22, .ref q23, .int 0, .int 0, .int 0, .int 0, .int 0, .int 0, .int 0, .int 0, .ref q24, .int 0, .int 0, .int 0, .int 0, .ref q25, .ref q26, .ref q27, .ref q28, .ref q29, .ref q30, .ref q31, .ref q32, .int 0, .int 0, .ref q33, .ref q34, .ref q35, .int 0, .ref q36, .ref q37, .ref q38, .ref q39, .ref q40, .ref q41, .ref q42, .ref q43, .ref q44, .int 0, .ref q45, .ref q46, .ref q47, .ref q48, .ref q49, .int 0, .ref q50, .ref q51, .ref q52, .int 0, .int 0, .ref q53, .ref q54])), (q2, .inl (E.2.1 0, 3000, .inl f111))]) X in_Mo t_Mo t_Mo_ok n_Mo hP hD hS 0 rfl rfl 3 (by decide) k_1358 (Or.inl rfl) (t_Mo_ok 3 (by decide)) rfl rfl (Nat.le_of_ble_eq_true rfl) d_Mo_sign_71 rfl (fun H locs hP hD hS => ?_)
          refine lv_iinc (v := 32) (lv' := [(3, .int 32), (4, .int x103), (0, .ref h0), (1, .long cc)]) hx hb d_Mo_sign_74 hl (k := 1) rfl (by decide) (by decide) rfl (fun ls hl => ?_)
          refine lv_goto (tgt := 8) hx hb d_Mo_sign_77 (by decide) ?_
          exact l_Mo_sign_5 l E h0 q1 q2 q3 q4 q5 q6 q7 q8 q9 q10 q11 q12 q13 q14 q15 q16 q17 q18 q19 q20 q21 q22 q23 q24 q25 q26 q27 q28 q29 q30 q31 q32 q33 q34 q35 q36 q37 q38 q39 q40 q41 q42 q43 q44 q45 q46 q47 q48 q49 q50 q51 q52 q53 q54 cc X x112 f111 _ _ _ (by rw [ex112]; exact gk_k2 hk c110) (lv_sub hl [0, 2, 3] rfl) hP hD hS

set_option maxHeartbeats 4000000 in
set_option maxRecDepth 100000 in
theorem l_Mo_sign_7 {p : Program} {e : Env} {s : State} {m : MethodId} {below : List Frame} {meth : Method} {c : Code} {A : Nat → Prop} (l : Launch) (E : gk_E) (h0 : Nat) (q1 : Nat) (q2 : Nat) (q3 : Nat) (q4 : Nat) (q5 : Nat) (q6 : Nat) (q7 : Nat) (q8 : Nat) (q9 : Nat) (q10 : Nat) (q11 : Nat) (q12 : Nat) (q13 : Nat) (q14 : Nat) (q15 : Nat) (q16 : Nat) (q17 : Nat) (q18 : Nat) (q19 : Nat) (q20 : Nat) (q21 : Nat) (q22 : Nat) (q23 : Nat) (q24 : Nat) (q25 : Nat) (q26 : Nat) (q27 : Nat) (q28 : Nat) (q29 : Nat) (q30 : Nat) (q31 : Nat) (q32 : Nat) (q33 : Nat) (q34 : Nat) (q35 : Nat) (q36 : Nat) (q37 : Nat) (q38 : Nat) (q39 : Nat) (q40 : Nat) (q41 : Nat) (q42 : Nat) (q43 : Nat) (q44 : Nat) (q45 : Nat) (q46 : Nat) (q47 : Nat) (q48 : Nat) (q49 : Nat) (q50 : Nat) (q51 : Nat) (q52 : Nat) (q53 : Nat) (q54 : Nat) (cc : Int64) (X : gk_X E p s m ([.ref h0, .long cc] : List Value).toArray meth c y_Mo_sign b_Mo_sign 5 (none) A) : ∀ (kk : Int32) (ff : Nat → Int32) (H : Heap) (locs : List Loc) (ls : Array Slot), ¬ kk < 0 → lv_has ls 5 [(3, .int 48), (0, .ref h0), (1, .long cc)] → va_P E.1 gk_cl [(h0, .inr (10, [.int 0, .ref q1, .ref q2, .int kk, .ref q3, .ref q4, .ref q5, .ref q6, .ref q7, .ref q8, .ref q9, .ref q10, .ref q11, .ref q12, .ref q13, .ref q14, .ref q15, .ref q16, .ref q17, .int 0, .int 0, .int 0, .int 0, .ref q18, .ref q19, .ref q20, .ref q21, .int 0, .int 0, .ref q22, .ref q23, .int 0, .int 0, .int 0, .int 0, .int 0, .int 0, .int 0, .int 0, .ref q24, .int 0, .int 0, .int 0, .int 0, .ref q25, .ref q26, .ref q27, .ref q28, .ref q29, .ref q30, .ref q31, .ref q32, .int 0, .int 0, .ref q33, .ref q34, .ref q35, .int 0, .ref q36, .ref q37, .ref q38, .ref q39, .ref q40, .ref q41, .ref q42, .ref q43, .ref q44, .int 0, .ref q45, .ref q46, .ref q47, .ref q48, .ref q49, .int 0, .ref q50, .ref q51, .ref q52, .int 0, .int 0, .ref q53, .ref q54])), (q2, .inl (E.2.1 0, 3000, .inl ff))] H → va_D A [(h0, .inr (10, [.int 0, .ref q1, .ref q2, .int kk, .ref q3, .ref q4, .ref q5, .ref q6, .ref q7, .ref q8, .ref q9, .ref q10, .ref q11, .ref q12, .ref q13, .ref q14, .ref q15, .ref q16, .ref q17, .int 0, .int 0, .int 0, .int 0, .ref q18, .ref q19, .ref q20, .ref q21, .int 0, .int 0, .ref q22, .ref q23, .int 0, .int 0, .int 0, .int 0, .int 0, .int 0, .int 0, .int 0, .ref q24, .int 0, .int 0, .int 0, .int 0, .ref q25, .ref q26, .ref q27, .ref q28, .ref q29, .ref q30, .ref q31, .ref q32, .int 0, .int 0, .ref q33, .ref q34, .ref q35, .int 0, .ref q36, .ref q37, .ref q38, .ref q39, .ref q40, .ref q41, .ref q42, .ref q43, .ref q44, .int 0, .ref q45, .ref q46, .ref q47, .ref q48, .ref q49, .int 0, .ref q50, .ref q51, .ref q52, .int 0, .int 0, .ref q53, .ref q54])), (q2, .inl (E.2.1 0, 3000, .inl ff))] → va_S A s.heap H locs → W p l e (gk_rm 0 0 0) s m ([.ref h0, .long cc] : List Value).toArray below meth c H locs 0 0 (MQ below (gk_Q E A (fun r w => r = none ∧ w = [])) ([.ref h0, .long cc] : List Value).toArray s 0 0 A) (F0 m 8 ls []) := by
  intro kk ff H locs ls hk hl hP hD hS
  have hx := X.1
  have hb := X.2.1
  have hown := X.2.2.2.1
  have hts := X.2.2.2.2.1
  have hr := X.2.2.2.2.2.2.2.2.1
  have hlocks : meth.locks = false := X.2.2.2.2.2.2.2.2.2.1
  refine lv_iload_n hx hb d_Mo_sign_8 rfl (lv_at hl 0 rfl) ?_
  refine lv_if_lt (tgt := 80) hx hb d_Mo_sign_9 (by decide) (fun c9 => absurd c9 (by decide)) (fun _ => ?_)
  refine lv_lload_n hx hb d_Mo_sign_12 rfl (lv_at hl 2 rfl) ?_
  refine lv_iload_n hx hb d_Mo_sign_13 rfl (lv_at hl 0 rfl) ?_
  refine lv_lshr hx hb d_Mo_sign_14 rfl ?_
  refine lv_topl (fun x101 ex101 => ?_)
  refine lv_ldc2 (own := "JobTextModel") (v := 255) hx hb hown (hts _ k_1604) d_Mo_sign_15 ?_
  refine lv_land hx hb d_Mo_sign_18 ?_
  refine lv_topl (fun x102 ex102 => ?_)
  refine lv_l2i hx hb d_Mo_sign_19 rfl ?_
  refine lv_topi (fun x103 ex103 => ?_)
  refine lv_istore (lv' := [(4, .int x103), (3, .int 48), (0, .ref h0), (1, .long cc)]) hx hb d_Mo_sign_20 hl (by decide) rfl (fun ls hl => ?_)
  refine lv_iload hx hb d_Mo_sign_22 (lv_at hl 0 rfl) ?_
  refine lv_bipush (v := 10) hx hb d_Mo_sign_24 (by decide) ?_
  refine lv_icmp_eq (tgt := 43) hx hb d_Mo_sign_26 (by decide) (fun c104 => ?_) (fun c104 => ?_)
  · refine lv_aload_n hx hb d_Mo_sign_43 rfl (lv_at hl 2 rfl) ?_
    refine gk_get (b := h0) (ci := 10) (v := .int kk) X in_Mo hP 0 rfl rfl 3 (by decide) k_1358 rfl d_Mo_sign_44 ?_
    refine lv_sipush (v := 3000) hx hb d_Mo_sign_47 (by decide) ?_
    refine lv_icmp_ge (tgt := 74) hx hb d_Mo_sign_50 (by decide) (fun c105 => ?_) (fun c105 => ?_)
    · refine lv_iinc (v := 40) (lv' := [(3, .int 40), (4, .int x103), (0, .ref h0), (1, .long cc)]) hx hb d_Mo_sign_74 hl (k := 1) rfl (by decide) (by decide) rfl (fun ls hl => ?_)
      refine lv_goto (tgt := 8) hx hb d_Mo_sign_77 (by decide) ?_
      exact l_Mo_sign_6 l E h0 q1 q2 q3 q4 q5 q6 q7 q8 q9 q10 q11 q12 q13 q14 q15 q16 q17 q18 q19 q20 q21 q22 q23 q24 q25 q26 q27 q28 q29 q30 q31 q32 q33 q34 q35 q36 q37 q38 q39 q40 q41 q42 q43 q44 q45 q46 q47 q48 q49 q50 q51 q52 q53 q54 cc X kk ff _ _ _ hk (lv_sub hl [0, 2, 3] rfl) hP hD hS
    · refine lv_aload_n hx hb d_Mo_sign_53 rfl (lv_at hl 2 rfl) ?_
      refine gk_get (b := h0) (ci := 10) (v := .ref q2) X in_Mo hP 0 rfl rfl 2 (by decide) k_1357 rfl d_Mo_sign_54 ?_
      refine lv_aload_n hx hb d_Mo_sign_57 rfl (lv_at hl 2 rfl) ?_
      refine gk_get (b := h0) (ci := 10) (v := .int kk) X in_Mo hP 0 rfl rfl 3 (by decide) k_1358 rfl d_Mo_sign_58 ?_
      refine lv_iload hx hb d_Mo_sign_61 (lv_at hl 0 rfl) ?_
      refine va_iast hx hb X.2.2.2.2.2.1.1 hP hD hS 1 0 rfl rfl (i := kk) (gk_k0 hk c105) d_Mo_sign_63 (fun H locs hP hD hS => ?_)
      obtain ⟨f106, ef106⟩ : ∃ g, g = upd ff (Int32.toNatClampNeg kk) x103 := ⟨_, rfl⟩
      rw [← ef106] at hP hD
      have hP : va_P E.1 gk_cl [(h0, .inr (10, [.int 0, .ref q1, .ref q2, .int kk, .ref q3, .ref q4, .ref q5, .ref q6, .ref q7, .ref q8, .ref q9, .ref q10, .ref q11, .ref q12, .ref q13, .ref q14, .ref q15, .ref q16, .ref q17, .int 0, .int 0, .int 0, .int 0, .ref q18, .ref q19, .ref q20, .ref q21, .int 0, .int 0, .ref q22, .ref q23, .int 0, .int 0, .int 0, .int 0, .int 0, .int 0, .int 0, .int 0, .ref q24, .int 0, .int 0, .int 0, .int 0, .ref q25, .ref q26, .ref q27, .ref q28, .ref q29, .ref q30, .ref q31, .ref q32, .int 0, .int 0, .ref q33, .ref q34, .ref q35, .int 0, .ref q36, .ref q37, .ref q38, .ref q39, .ref q40, .ref q41, .ref q42, .ref q43, .ref q44, .int 0, .ref q45, .ref q46, .ref q47, .ref q48, .ref q49, .int 0, .ref q50, .ref q51, .ref q52, .int 0, .int 0, .ref q53, .ref q54])), (q2, .inl (E.2.1 0, 3000, .inl f106))] H := hP
      have hD : va_D A [(h0, .inr (10, [.int 0, .ref q1, .ref q2, .int kk, .ref q3, .ref q4, .ref q5, .ref q6, .ref q7, .ref q8, .ref q9, .ref q10, .ref q11, .ref q12, .ref q13, .ref q14, .ref q15, .ref q16, .ref q17, .int 0, .int 0, .int 0, .int 0, .ref q18, .ref q19, .ref q20, .ref q21, .int 0, .int 0, .ref q22, .ref q23, .int 0, .int 0, .int 0, .int 0, .int 0, .int 0, .int 0, .int 0, .ref q24, .int 0, .int 0, .int 0, .int 0, .ref q25, .ref q26, .ref q27, .ref q28, .ref q29, .ref q30, .ref q31, .ref q32, .int 0, .int 0, .ref q33, .ref q34, .ref q35, .int 0, .ref q36, .ref q37, .ref q38, .ref q39, .ref q40, .ref q41, .ref q42, .ref q43, .ref q44, .int 0, .ref q45, .ref q46, .ref q47, .ref q48, .ref q49, .int 0, .ref q50, .ref q51, .ref q52, .int 0, .int 0, .ref q53, .ref q54])), (q2, .inl (E.2.1 0, 3000, .inl f106))] := hD
      refine lv_aload_n hx hb d_Mo_sign_64 rfl (lv_at hl 2 rfl) ?_
      refine lv_dup hx hb d_Mo_sign_65 rfl ?_
      refine gk_get (b := h0) (ci := 10) (v := .int kk) X in_Mo hP 0 rfl rfl 3 (by decide) k_1358 rfl d_Mo_sign_66 ?_
      refine lv_iconst (v := 1) hx hb d_Mo_sign_69 (by decide) ?_
      refine lv_iadd hx hb d_Mo_sign_70 ?_
      refine lv_topi (fun x107 ex107 => ?_)
      refine gk_put (b := h0) (ci := 10) (v := .int x107) (ty := t_Mo 3) (ws' := [(h0, .inr (10, [.int 0, .ref q1, .ref q2, .int x107, .ref q3, .ref q4, .ref q5, .ref q6, .ref q7, .ref q8, .ref q9, .ref q10, .ref q11, .ref q12, .ref q13, .ref q14, .ref q15, .ref q16, .ref q17, .int 0, .int 0, .int 0, .int 0, .ref q18, .ref q19, .ref q20, .ref q21, .int 0, .int 0, .ref q22, .ref q23, .int 0, .int 0, .int 0, .int 0, .int 0, .int 0, .int 0, .int 0, .ref q24, .int 0, .int 0, .int 0, .int 0, .ref q25, .ref q26, .ref q27, .ref q28, .ref q29, .ref q30, .ref q31, .ref q32, .int 0, .int 0, .ref q33, .ref q34, .ref q35, .int 0, .ref q36, .ref q37, .ref q38, .ref q39, .ref q40, .ref q41, .ref q42, .ref q43, .ref q44, .int 0, .ref q45, .ref q46, .ref q47, .ref q48, .ref q49, .int 0, .ref q50, .ref q51, .ref q52, .int 0, .int 0, .ref q53, .ref q54])), (q2, .inl (E.2.1 0, 3000, .inl f106))]) X in_Mo t_Mo t_Mo_ok n_Mo hP hD hS 0 rfl rfl 3 (by decide) k_1358 (Or.inl rfl) (t_Mo_ok 3 (by decide)) rfl rfl (Nat.le_of_ble_eq_true rfl) d_Mo_sign_71 rfl (fun H locs hP hD hS => ?_)
      refine lv_iinc (v := 40) (lv' := [(3, .int 40), (4, .int x103), (0, .ref h0), (1, .long cc)]) hx hb d_Mo_sign_74 hl (k := 1) rfl (by decide) (by decide) rfl (fun ls hl => ?_)
      refine lv_goto (tgt := 8) hx hb d_Mo_sign_77 (by decide) ?_
      exact l_Mo_sign_6 l E h0 q1 q2 q3 q4 q5 q6 q7 q8 q9 q10 q11 q12 q13 q14 q15 q16 q17 q18 q19 q20 q21 q22 q23 q24 q25 q26 q27 q28 q29 q30 q31 q32 q33 q34 q35 q36 q37 q38 q39 q40 q41 q42 q43 q44 q45 q46 q47 q48 q49 q50 q51 q52 q53 q54 cc X x107 f106 _ _ _ (by rw [ex107]; exact gk_k2 hk c105) (lv_sub hl [0, 2, 3] rfl) hP hD hS
  · refine lv_iload hx hb d_Mo_sign_29 (lv_at hl 0 rfl) ?_
    refine lv_bipush (v := 32) hx hb d_Mo_sign_31 (by decide) ?_
    refine lv_icmp_lt (tgt := 74) hx hb d_Mo_sign_33 (by decide) (fun c108 => ?_) (fun c108 => ?_)
    · refine lv_iinc (v := 40) (lv' := [(3, .int 40), (4, .int x103), (0, .ref h0), (1, .long cc)]) hx hb d_Mo_sign_74 hl (k := 1) rfl (by decide) (by decide) rfl (fun ls hl => ?_)
      refine lv_goto (tgt := 8) hx hb d_Mo_sign_77 (by decide) ?_
      exact l_Mo_sign_6 l E h0 q1 q2 q3 q4 q5 q6 q7 q8 q9 q10 q11 q12 q13 q14 q15 q16 q17 q18 q19 q20 q21 q22 q23 q24 q25 q26 q27 q28 q29 q30 q31 q32 q33 q34 q35 q36 q37 q38 q39 q40 q41 q42 q43 q44 q45 q46 q47 q48 q49 q50 q51 q52 q53 q54 cc X kk ff _ _ _ hk (lv_sub hl [0, 2, 3] rfl) hP hD hS
    · refine lv_iload hx hb d_Mo_sign_36 (lv_at hl 0 rfl) ?_
      refine lv_bipush (v := 126) hx hb d_Mo_sign_38 (by decide) ?_
      refine lv_icmp_gt (tgt := 74) hx hb d_Mo_sign_40 (by decide) (fun c109 => ?_) (fun c109 => ?_)
      · refine lv_iinc (v := 40) (lv' := [(3, .int 40), (4, .int x103), (0, .ref h0), (1, .long cc)]) hx hb d_Mo_sign_74 hl (k := 1) rfl (by decide) (by decide) rfl (fun ls hl => ?_)
        refine lv_goto (tgt := 8) hx hb d_Mo_sign_77 (by decide) ?_
        exact l_Mo_sign_6 l E h0 q1 q2 q3 q4 q5 q6 q7 q8 q9 q10 q11 q12 q13 q14 q15 q16 q17 q18 q19 q20 q21 q22 q23 q24 q25 q26 q27 q28 q29 q30 q31 q32 q33 q34 q35 q36 q37 q38 q39 q40 q41 q42 q43 q44 q45 q46 q47 q48 q49 q50 q51 q52 q53 q54 cc X kk ff _ _ _ hk (lv_sub hl [0, 2, 3] rfl) hP hD hS
      · refine lv_aload_n hx hb d_Mo_sign_43 rfl (lv_at hl 2 rfl) ?_
        refine gk_get (b := h0) (ci := 10) (v := .int kk) X in_Mo hP 0 rfl rfl 3 (by decide) k_1358 rfl d_Mo_sign_44 ?_
        refine lv_sipush (v := 3000) hx hb d_Mo_sign_47 (by decide) ?_
        refine lv_icmp_ge (tgt := 74) hx hb d_Mo_sign_50 (by decide) (fun c110 => ?_) (fun c110 => ?_)
        · refine lv_iinc (v := 40) (lv' := [(3, .int 40), (4, .int x103), (0, .ref h0), (1, .long cc)]) hx hb d_Mo_sign_74 hl (k := 1) rfl (by decide) (by decide) rfl (fun ls hl => ?_)
          refine lv_goto (tgt := 8) hx hb d_Mo_sign_77 (by decide) ?_
          exact l_Mo_sign_6 l E h0 q1 q2 q3 q4 q5 q6 q7 q8 q9 q10 q11 q12 q13 q14 q15 q16 q17 q18 q19 q20 q21 q22 q23 q24 q25 q26 q27 q28 q29 q30 q31 q32 q33 q34 q35 q36 q37 q38 q39 q40 q41 q42 q43 q44 q45 q46 q47 q48 q49 q50 q51 q52 q53 q54 cc X kk ff _ _ _ hk (lv_sub hl [0, 2, 3] rfl) hP hD hS
        · refine lv_aload_n hx hb d_Mo_sign_53 rfl (lv_at hl 2 rfl) ?_
          refine gk_get (b := h0) (ci := 10) (v := .ref q2) X in_Mo hP 0 rfl rfl 2 (by decide) k_1357 rfl d_Mo_sign_54 ?_
          refine lv_aload_n hx hb d_Mo_sign_57 rfl (lv_at hl 2 rfl) ?_
          refine gk_get (b := h0) (ci := 10) (v := .int kk) X in_Mo hP 0 rfl rfl 3 (by decide) k_1358 rfl d_Mo_sign_58 ?_
          refine lv_iload hx hb d_Mo_sign_61 (lv_at hl 0 rfl) ?_
          refine va_iast hx hb X.2.2.2.2.2.1.1 hP hD hS 1 0 rfl rfl (i := kk) (gk_k0 hk c110) d_Mo_sign_63 (fun H locs hP hD hS => ?_)
          obtain ⟨f111, ef111⟩ : ∃ g, g = upd ff (Int32.toNatClampNeg kk) x103 := ⟨_, rfl⟩
          rw [← ef111] at hP hD
          have hP : va_P E.1 gk_cl [(h0, .inr (10, [.int 0, .ref q1, .ref q2, .int kk, .ref q3, .ref q4, .ref q5, .ref q6, .ref q7, .ref q8, .ref q9, .ref q10, .ref q11, .ref q12, .ref q13, .ref q14, .ref q15, .ref q16, .ref q17, .int 0, .int 0, .int 0, .int 0, .ref q18, .ref q19, .ref q20, .ref q21, .int 0, .int 0, .ref q22, .ref q23, .int 0, .int 0, .int 0, .int 0, .int 0, .int 0, .int 0, .int 0, .ref q24, .int 0, .int 0, .int 0, .int 0, .ref q25, .ref q26, .ref q27, .ref q28, .ref q29, .ref q30, .ref q31, .ref q32, .int 0, .int 0, .ref q33, .ref q34, .ref q35, .int 0, .ref q36, .ref q37, .ref q38, .ref q39, .ref q40, .ref q41, .ref q42, .ref q43, .ref q44, .int 0, .ref q45, .ref q46, .ref q47, .ref q48, .ref q49, .int 0, .ref q50, .ref q51, .ref q52, .int 0, .int 0, .ref q53, .ref q54])), (q2, .inl (E.2.1 0, 3000, .inl f111))] H := hP
          have hD : va_D A [(h0, .inr (10, [.int 0, .ref q1, .ref q2, .int kk, .ref q3, .ref q4, .ref q5, .ref q6, .ref q7, .ref q8, .ref q9, .ref q10, .ref q11, .ref q12, .ref q13, .ref q14, .ref q15, .ref q16, .ref q17, .int 0, .int 0, .int 0, .int 0, .ref q18, .ref q19, .ref q20, .ref q21, .int 0, .int 0, .ref q22, .ref q23, .int 0, .int 0, .int 0, .int 0, .int 0, .int 0, .int 0, .int 0, .ref q24, .int 0, .int 0, .int 0, .int 0, .ref q25, .ref q26, .ref q27, .ref q28, .ref q29, .ref q30, .ref q31, .ref q32, .int 0, .int 0, .ref q33, .ref q34, .ref q35, .int 0, .ref q36, .ref q37, .ref q38, .ref q39, .ref q40, .ref q41, .ref q42, .ref q43, .ref q44, .int 0, .ref q45, .ref q46, .ref q47, .ref q48, .ref q49, .int 0, .ref q50, .ref q51, .ref q52, .int 0, .int 0, .ref q53, .ref q54])), (q2, .inl (E.2.1 0, 3000, .inl f111))] := hD
          refine lv_aload_n hx hb d_Mo_sign_64 rfl (lv_at hl 2 rfl) ?_
          refine lv_dup hx hb d_Mo_sign_65 rfl ?_
          refine gk_get (b := h0) (ci := 10) (v := .int kk) X in_Mo hP 0 rfl rfl 3 (by decide) k_1358 rfl d_Mo_sign_66 ?_
          refine lv_iconst (v := 1) hx hb d_Mo_sign_69 (by decide) ?_
          refine lv_iadd hx hb d_Mo_sign_70 ?_
          refine lv_topi (fun x112 ex112 => ?_)
          refine gk_put (b := h0) (ci := 10) (v := .int x112) (ty := t_Mo 3) (ws' := [(h0, .inr (10, [.int 0, .ref q1, .ref q2, .int x112, .ref q3, .ref q4, .ref q5, .ref q6, .ref q7, .ref q8, .ref q9, .ref q10, .ref q11, .ref q12, .ref q13, .ref q14, .ref q15, .ref q16, .ref q17, .int 0, .int 0, .int 0, .int 0, .ref q18, .ref q19, .ref q20, .ref q21, .int 0, .int 0, .ref q22, .ref q23, .int 0, .int 0, .int 0, .int 0, .int 0, .int 0, .int 0, .int 0, .ref q24, .int 0, .int 0, .int 0, .int 0, .ref q25, .ref q26, .ref q27, .ref q28, .ref q29, .ref q30, .ref q31, .ref q32, .int 0, .int 0, .ref q33, .ref q34, .ref q35, .int 0, .ref q36, .ref q37, .ref q38, .ref q39, .ref q40, .ref q41, .ref q42, .ref q43, .ref q44, .int 0, .ref q45, .ref q46, .ref q47, .ref q48, .ref q49, .int 0, .ref q50, .ref q51, .ref q52, .int 0, .int 0, .ref q53, .ref q54])), (q2, .inl (E.2.1 0, 3000, .inl f111))]) X in_Mo t_Mo t_Mo_ok n_Mo hP hD hS 0 rfl rfl 3 (by decide) k_1358 (Or.inl rfl) (t_Mo_ok 3 (by decide)) rfl rfl (Nat.le_of_ble_eq_true rfl) d_Mo_sign_71 rfl (fun H locs hP hD hS => ?_)
          refine lv_iinc (v := 40) (lv' := [(3, .int 40), (4, .int x103), (0, .ref h0), (1, .long cc)]) hx hb d_Mo_sign_74 hl (k := 1) rfl (by decide) (by decide) rfl (fun ls hl => ?_)
          refine lv_goto (tgt := 8) hx hb d_Mo_sign_77 (by decide) ?_
          exact l_Mo_sign_6 l E h0 q1 q2 q3 q4 q5 q6 q7 q8 q9 q10 q11 q12 q13 q14 q15 q16 q17 q18 q19 q20 q21 q22 q23 q24 q25 q26 q27 q28 q29 q30 q31 q32 q33 q34 q35 q36 q37 q38 q39 q40 q41 q42 q43 q44 q45 q46 q47 q48 q49 q50 q51 q52 q53 q54 cc X x112 f111 _ _ _ (by rw [ex112]; exact gk_k2 hk c110) (lv_sub hl [0, 2, 3] rfl) hP hD hS

set_option maxHeartbeats 4000000 in
set_option maxRecDepth 100000 in
theorem l_Mo_sign_8 {p : Program} {e : Env} {s : State} {m : MethodId} {below : List Frame} {meth : Method} {c : Code} {A : Nat → Prop} (l : Launch) (E : gk_E) (h0 : Nat) (q1 : Nat) (q2 : Nat) (q3 : Nat) (q4 : Nat) (q5 : Nat) (q6 : Nat) (q7 : Nat) (q8 : Nat) (q9 : Nat) (q10 : Nat) (q11 : Nat) (q12 : Nat) (q13 : Nat) (q14 : Nat) (q15 : Nat) (q16 : Nat) (q17 : Nat) (q18 : Nat) (q19 : Nat) (q20 : Nat) (q21 : Nat) (q22 : Nat) (q23 : Nat) (q24 : Nat) (q25 : Nat) (q26 : Nat) (q27 : Nat) (q28 : Nat) (q29 : Nat) (q30 : Nat) (q31 : Nat) (q32 : Nat) (q33 : Nat) (q34 : Nat) (q35 : Nat) (q36 : Nat) (q37 : Nat) (q38 : Nat) (q39 : Nat) (q40 : Nat) (q41 : Nat) (q42 : Nat) (q43 : Nat) (q44 : Nat) (q45 : Nat) (q46 : Nat) (q47 : Nat) (q48 : Nat) (q49 : Nat) (q50 : Nat) (q51 : Nat) (q52 : Nat) (q53 : Nat) (q54 : Nat) (cc : Int64) (X : gk_X E p s m ([.ref h0, .long cc] : List Value).toArray meth c y_Mo_sign b_Mo_sign 5 (none) A) : ∀ (kk : Int32) (ff : Nat → Int32) (H : Heap) (locs : List Loc) (ls : Array Slot), ¬ kk < 0 → lv_has ls 5 [(3, .int 56), (0, .ref h0), (1, .long cc)] → va_P E.1 gk_cl [(h0, .inr (10, [.int 0, .ref q1, .ref q2, .int kk, .ref q3, .ref q4, .ref q5, .ref q6, .ref q7, .ref q8, .ref q9, .ref q10, .ref q11, .ref q12, .ref q13, .ref q14, .ref q15, .ref q16, .ref q17, .int 0, .int 0, .int 0, .int 0, .ref q18, .ref q19, .ref q20, .ref q21, .int 0, .int 0, .ref q22, .ref q23, .int 0, .int 0, .int 0, .int 0, .int 0, .int 0, .int 0, .int 0, .ref q24, .int 0, .int 0, .int 0, .int 0, .ref q25, .ref q26, .ref q27, .ref q28, .ref q29, .ref q30, .ref q31, .ref q32, .int 0, .int 0, .ref q33, .ref q34, .ref q35, .int 0, .ref q36, .ref q37, .ref q38, .ref q39, .ref q40, .ref q41, .ref q42, .ref q43, .ref q44, .int 0, .ref q45, .ref q46, .ref q47, .ref q48, .ref q49, .int 0, .ref q50, .ref q51, .ref q52, .int 0, .int 0, .ref q53, .ref q54])), (q2, .inl (E.2.1 0, 3000, .inl ff))] H → va_D A [(h0, .inr (10, [.int 0, .ref q1, .ref q2, .int kk, .ref q3, .ref q4, .ref q5, .ref q6, .ref q7, .ref q8, .ref q9, .ref q10, .ref q11, .ref q12, .ref q13, .ref q14, .ref q15, .ref q16, .ref q17, .int 0, .int 0, .int 0, .int 0, .ref q18, .ref q19, .ref q20, .ref q21, .int 0, .int 0, .ref q22, .ref q23, .int 0, .int 0, .int 0, .int 0, .int 0, .int 0, .int 0, .int 0, .ref q24, .int 0, .int 0, .int 0, .int 0, .ref q25, .ref q26, .ref q27, .ref q28, .ref q29, .ref q30, .ref q31, .ref q32, .int 0, .int 0, .ref q33, .ref q34, .ref q35, .int 0, .ref q36, .ref q37, .ref q38, .ref q39, .ref q40, .ref q41, .ref q42, .ref q43, .ref q44, .int 0, .ref q45, .ref q46, .ref q47, .ref q48, .ref q49, .int 0, .ref q50, .ref q51, .ref q52, .int 0, .int 0, .ref q53, .ref q54])), (q2, .inl (E.2.1 0, 3000, .inl ff))] → va_S A s.heap H locs → W p l e (gk_rm 0 0 0) s m ([.ref h0, .long cc] : List Value).toArray below meth c H locs 0 0 (MQ below (gk_Q E A (fun r w => r = none ∧ w = [])) ([.ref h0, .long cc] : List Value).toArray s 0 0 A) (F0 m 8 ls []) := by
  intro kk ff H locs ls hk hl hP hD hS
  have hx := X.1
  have hb := X.2.1
  have hown := X.2.2.2.1
  have hts := X.2.2.2.2.1
  have hr := X.2.2.2.2.2.2.2.2.1
  have hlocks : meth.locks = false := X.2.2.2.2.2.2.2.2.2.1
  refine lv_iload_n hx hb d_Mo_sign_8 rfl (lv_at hl 0 rfl) ?_
  refine lv_if_lt (tgt := 80) hx hb d_Mo_sign_9 (by decide) (fun c9 => absurd c9 (by decide)) (fun _ => ?_)
  refine lv_lload_n hx hb d_Mo_sign_12 rfl (lv_at hl 2 rfl) ?_
  refine lv_iload_n hx hb d_Mo_sign_13 rfl (lv_at hl 0 rfl) ?_
  refine lv_lshr hx hb d_Mo_sign_14 rfl ?_
  refine lv_topl (fun x101 ex101 => ?_)
  refine lv_ldc2 (own := "JobTextModel") (v := 255) hx hb hown (hts _ k_1604) d_Mo_sign_15 ?_
  refine lv_land hx hb d_Mo_sign_18 ?_
  refine lv_topl (fun x102 ex102 => ?_)
  refine lv_l2i hx hb d_Mo_sign_19 rfl ?_
  refine lv_topi (fun x103 ex103 => ?_)
  refine lv_istore (lv' := [(4, .int x103), (3, .int 56), (0, .ref h0), (1, .long cc)]) hx hb d_Mo_sign_20 hl (by decide) rfl (fun ls hl => ?_)
  refine lv_iload hx hb d_Mo_sign_22 (lv_at hl 0 rfl) ?_
  refine lv_bipush (v := 10) hx hb d_Mo_sign_24 (by decide) ?_
  refine lv_icmp_eq (tgt := 43) hx hb d_Mo_sign_26 (by decide) (fun c104 => ?_) (fun c104 => ?_)
  · refine lv_aload_n hx hb d_Mo_sign_43 rfl (lv_at hl 2 rfl) ?_
    refine gk_get (b := h0) (ci := 10) (v := .int kk) X in_Mo hP 0 rfl rfl 3 (by decide) k_1358 rfl d_Mo_sign_44 ?_
    refine lv_sipush (v := 3000) hx hb d_Mo_sign_47 (by decide) ?_
    refine lv_icmp_ge (tgt := 74) hx hb d_Mo_sign_50 (by decide) (fun c105 => ?_) (fun c105 => ?_)
    · refine lv_iinc (v := 48) (lv' := [(3, .int 48), (4, .int x103), (0, .ref h0), (1, .long cc)]) hx hb d_Mo_sign_74 hl (k := 1) rfl (by decide) (by decide) rfl (fun ls hl => ?_)
      refine lv_goto (tgt := 8) hx hb d_Mo_sign_77 (by decide) ?_
      exact l_Mo_sign_7 l E h0 q1 q2 q3 q4 q5 q6 q7 q8 q9 q10 q11 q12 q13 q14 q15 q16 q17 q18 q19 q20 q21 q22 q23 q24 q25 q26 q27 q28 q29 q30 q31 q32 q33 q34 q35 q36 q37 q38 q39 q40 q41 q42 q43 q44 q45 q46 q47 q48 q49 q50 q51 q52 q53 q54 cc X kk ff _ _ _ hk (lv_sub hl [0, 2, 3] rfl) hP hD hS
    · refine lv_aload_n hx hb d_Mo_sign_53 rfl (lv_at hl 2 rfl) ?_
      refine gk_get (b := h0) (ci := 10) (v := .ref q2) X in_Mo hP 0 rfl rfl 2 (by decide) k_1357 rfl d_Mo_sign_54 ?_
      refine lv_aload_n hx hb d_Mo_sign_57 rfl (lv_at hl 2 rfl) ?_
      refine gk_get (b := h0) (ci := 10) (v := .int kk) X in_Mo hP 0 rfl rfl 3 (by decide) k_1358 rfl d_Mo_sign_58 ?_
      refine lv_iload hx hb d_Mo_sign_61 (lv_at hl 0 rfl) ?_
      refine va_iast hx hb X.2.2.2.2.2.1.1 hP hD hS 1 0 rfl rfl (i := kk) (gk_k0 hk c105) d_Mo_sign_63 (fun H locs hP hD hS => ?_)
      obtain ⟨f106, ef106⟩ : ∃ g, g = upd ff (Int32.toNatClampNeg kk) x103 := ⟨_, rfl⟩
      rw [← ef106] at hP hD
      have hP : va_P E.1 gk_cl [(h0, .inr (10, [.int 0, .ref q1, .ref q2, .int kk, .ref q3, .ref q4, .ref q5, .ref q6, .ref q7, .ref q8, .ref q9, .ref q10, .ref q11, .ref q12, .ref q13, .ref q14, .ref q15, .ref q16, .ref q17, .int 0, .int 0, .int 0, .int 0, .ref q18, .ref q19, .ref q20, .ref q21, .int 0, .int 0, .ref q22, .ref q23, .int 0, .int 0, .int 0, .int 0, .int 0, .int 0, .int 0, .int 0, .ref q24, .int 0, .int 0, .int 0, .int 0, .ref q25, .ref q26, .ref q27, .ref q28, .ref q29, .ref q30, .ref q31, .ref q32, .int 0, .int 0, .ref q33, .ref q34, .ref q35, .int 0, .ref q36, .ref q37, .ref q38, .ref q39, .ref q40, .ref q41, .ref q42, .ref q43, .ref q44, .int 0, .ref q45, .ref q46, .ref q47, .ref q48, .ref q49, .int 0, .ref q50, .ref q51, .ref q52, .int 0, .int 0, .ref q53, .ref q54])), (q2, .inl (E.2.1 0, 3000, .inl f106))] H := hP
      have hD : va_D A [(h0, .inr (10, [.int 0, .ref q1, .ref q2, .int kk, .ref q3, .ref q4, .ref q5, .ref q6, .ref q7, .ref q8, .ref q9, .ref q10, .ref q11, .ref q12, .ref q13, .ref q14, .ref q15, .ref q16, .ref q17, .int 0, .int 0, .int 0, .int 0, .ref q18, .ref q19, .ref q20, .ref q21, .int 0, .int 0, .ref q22, .ref q23, .int 0, .int 0, .int 0, .int 0, .int 0, .int 0, .int 0, .int 0, .ref q24, .int 0, .int 0, .int 0, .int 0, .ref q25, .ref q26, .ref q27, .ref q28, .ref q29, .ref q30, .ref q31, .ref q32, .int 0, .int 0, .ref q33, .ref q34, .ref q35, .int 0, .ref q36, .ref q37, .ref q38, .ref q39, .ref q40, .ref q41, .ref q42, .ref q43, .ref q44, .int 0, .ref q45, .ref q46, .ref q47, .ref q48, .ref q49, .int 0, .ref q50, .ref q51, .ref q52, .int 0, .int 0, .ref q53, .ref q54])), (q2, .inl (E.2.1 0, 3000, .inl f106))] := hD
      refine lv_aload_n hx hb d_Mo_sign_64 rfl (lv_at hl 2 rfl) ?_
      refine lv_dup hx hb d_Mo_sign_65 rfl ?_
      refine gk_get (b := h0) (ci := 10) (v := .int kk) X in_Mo hP 0 rfl rfl 3 (by decide) k_1358 rfl d_Mo_sign_66 ?_
      refine lv_iconst (v := 1) hx hb d_Mo_sign_69 (by decide) ?_
      refine lv_iadd hx hb d_Mo_sign_70 ?_
      refine lv_topi (fun x107 ex107 => ?_)
      refine gk_put (b := h0) (ci := 10) (v := .int x107) (ty := t_Mo 3) (ws' := [(h0, .inr (10, [.int 0, .ref q1, .ref q2, .int x107, .ref q3, .ref q4, .ref q5, .ref q6, .ref q7, .ref q8, .ref q9, .ref q10, .ref q11, .ref q12, .ref q13, .ref q14, .ref q15, .ref q16, .ref q17, .int 0, .int 0, .int 0, .int 0, .ref q18, .ref q19, .ref q20, .ref q21, .int 0, .int 0, .ref q22, .ref q23, .int 0, .int 0, .int 0, .int 0, .int 0, .int 0, .int 0, .int 0, .ref q24, .int 0, .int 0, .int 0, .int 0, .ref q25, .ref q26, .ref q27, .ref q28, .ref q29, .ref q30, .ref q31, .ref q32, .int 0, .int 0, .ref q33, .ref q34, .ref q35, .int 0, .ref q36, .ref q37, .ref q38, .ref q39, .ref q40, .ref q41, .ref q42, .ref q43, .ref q44, .int 0, .ref q45, .ref q46, .ref q47, .ref q48, .ref q49, .int 0, .ref q50, .ref q51, .ref q52, .int 0, .int 0, .ref q53, .ref q54])), (q2, .inl (E.2.1 0, 3000, .inl f106))]) X in_Mo t_Mo t_Mo_ok n_Mo hP hD hS 0 rfl rfl 3 (by decide) k_1358 (Or.inl rfl) (t_Mo_ok 3 (by decide)) rfl rfl (Nat.le_of_ble_eq_true rfl) d_Mo_sign_71 rfl (fun H locs hP hD hS => ?_)
      refine lv_iinc (v := 48) (lv' := [(3, .int 48), (4, .int x103), (0, .ref h0), (1, .long cc)]) hx hb d_Mo_sign_74 hl (k := 1) rfl (by decide) (by decide) rfl (fun ls hl => ?_)
      refine lv_goto (tgt := 8) hx hb d_Mo_sign_77 (by decide) ?_
      exact l_Mo_sign_7 l E h0 q1 q2 q3 q4 q5 q6 q7 q8 q9 q10 q11 q12 q13 q14 q15 q16 q17 q18 q19 q20 q21 q22 q23 q24 q25 q26 q27 q28 q29 q30 q31 q32 q33 q34 q35 q36 q37 q38 q39 q40 q41 q42 q43 q44 q45 q46 q47 q48 q49 q50 q51 q52 q53 q54 cc X x107 f106 _ _ _ (by rw [ex107]; exact gk_k2 hk c105) (lv_sub hl [0, 2, 3] rfl) hP hD hS
  · refine lv_iload hx hb d_Mo_sign_29 (lv_at hl 0 rfl) ?_
    refine lv_bipush (v := 32) hx hb d_Mo_sign_31 (by decide) ?_
    refine lv_icmp_lt (tgt := 74) hx hb d_Mo_sign_33 (by decide) (fun c108 => ?_) (fun c108 => ?_)
    · refine lv_iinc (v := 48) (lv' := [(3, .int 48), (4, .int x103), (0, .ref h0), (1, .long cc)]) hx hb d_Mo_sign_74 hl (k := 1) rfl (by decide) (by decide) rfl (fun ls hl => ?_)
      refine lv_goto (tgt := 8) hx hb d_Mo_sign_77 (by decide) ?_
      exact l_Mo_sign_7 l E h0 q1 q2 q3 q4 q5 q6 q7 q8 q9 q10 q11 q12 q13 q14 q15 q16 q17 q18 q19 q20 q21 q22 q23 q24 q25 q26 q27 q28 q29 q30 q31 q32 q33 q34 q35 q36 q37 q38 q39 q40 q41 q42 q43 q44 q45 q46 q47 q48 q49 q50 q51 q52 q53 q54 cc X kk ff _ _ _ hk (lv_sub hl [0, 2, 3] rfl) hP hD hS
    · refine lv_iload hx hb d_Mo_sign_36 (lv_at hl 0 rfl) ?_
      refine lv_bipush (v := 126) hx hb d_Mo_sign_38 (by decide) ?_
      refine lv_icmp_gt (tgt := 74) hx hb d_Mo_sign_40 (by decide) (fun c109 => ?_) (fun c109 => ?_)
      · refine lv_iinc (v := 48) (lv' := [(3, .int 48), (4, .int x103), (0, .ref h0), (1, .long cc)]) hx hb d_Mo_sign_74 hl (k := 1) rfl (by decide) (by decide) rfl (fun ls hl => ?_)
        refine lv_goto (tgt := 8) hx hb d_Mo_sign_77 (by decide) ?_
        exact l_Mo_sign_7 l E h0 q1 q2 q3 q4 q5 q6 q7 q8 q9 q10 q11 q12 q13 q14 q15 q16 q17 q18 q19 q20 q21 q22 q23 q24 q25 q26 q27 q28 q29 q30 q31 q32 q33 q34 q35 q36 q37 q38 q39 q40 q41 q42 q43 q44 q45 q46 q47 q48 q49 q50 q51 q52 q53 q54 cc X kk ff _ _ _ hk (lv_sub hl [0, 2, 3] rfl) hP hD hS
      · refine lv_aload_n hx hb d_Mo_sign_43 rfl (lv_at hl 2 rfl) ?_
        refine gk_get (b := h0) (ci := 10) (v := .int kk) X in_Mo hP 0 rfl rfl 3 (by decide) k_1358 rfl d_Mo_sign_44 ?_
        refine lv_sipush (v := 3000) hx hb d_Mo_sign_47 (by decide) ?_
        refine lv_icmp_ge (tgt := 74) hx hb d_Mo_sign_50 (by decide) (fun c110 => ?_) (fun c110 => ?_)
        · refine lv_iinc (v := 48) (lv' := [(3, .int 48), (4, .int x103), (0, .ref h0), (1, .long cc)]) hx hb d_Mo_sign_74 hl (k := 1) rfl (by decide) (by decide) rfl (fun ls hl => ?_)
          refine lv_goto (tgt := 8) hx hb d_Mo_sign_77 (by decide) ?_
          exact l_Mo_sign_7 l E h0 q1 q2 q3 q4 q5 q6 q7 q8 q9 q10 q11 q12 q13 q14 q15 q16 q17 q18 q19 q20 q21 q22 q23 q24 q25 q26 q27 q28 q29 q30 q31 q32 q33 q34 q35 q36 q37 q38 q39 q40 q41 q42 q43 q44 q45 q46 q47 q48 q49 q50 q51 q52 q53 q54 cc X kk ff _ _ _ hk (lv_sub hl [0, 2, 3] rfl) hP hD hS
        · refine lv_aload_n hx hb d_Mo_sign_53 rfl (lv_at hl 2 rfl) ?_
          refine gk_get (b := h0) (ci := 10) (v := .ref q2) X in_Mo hP 0 rfl rfl 2 (by decide) k_1357 rfl d_Mo_sign_54 ?_
          refine lv_aload_n hx hb d_Mo_sign_57 rfl (lv_at hl 2 rfl) ?_
          refine gk_get (b := h0) (ci := 10) (v := .int kk) X in_Mo hP 0 rfl rfl 3 (by decide) k_1358 rfl d_Mo_sign_58 ?_
          refine lv_iload hx hb d_Mo_sign_61 (lv_at hl 0 rfl) ?_
          refine va_iast hx hb X.2.2.2.2.2.1.1 hP hD hS 1 0 rfl rfl (i := kk) (gk_k0 hk c110) d_Mo_sign_63 (fun H locs hP hD hS => ?_)
          obtain ⟨f111, ef111⟩ : ∃ g, g = upd ff (Int32.toNatClampNeg kk) x103 := ⟨_, rfl⟩
          rw [← ef111] at hP hD
          have hP : va_P E.1 gk_cl [(h0, .inr (10, [.int 0, .ref q1, .ref q2, .int kk, .ref q3, .ref q4, .ref q5, .ref q6, .ref q7, .ref q8, .ref q9, .ref q10, .ref q11, .ref q12, .ref q13, .ref q14, .ref q15, .ref q16, .ref q17, .int 0, .int 0, .int 0, .int 0, .ref q18, .ref q19, .ref q20, .ref q21, .int 0, .int 0, .ref q22, .ref q23, .int 0, .int 0, .int 0, .int 0, .int 0, .int 0, .int 0, .int 0, .ref q24, .int 0, .int 0, .int 0, .int 0, .ref q25, .ref q26, .ref q27, .ref q28, .ref q29, .ref q30, .ref q31, .ref q32, .int 0, .int 0, .ref q33, .ref q34, .ref q35, .int 0, .ref q36, .ref q37, .ref q38, .ref q39, .ref q40, .ref q41, .ref q42, .ref q43, .ref q44, .int 0, .ref q45, .ref q46, .ref q47, .ref q48, .ref q49, .int 0, .ref q50, .ref q51, .ref q52, .int 0, .int 0, .ref q53, .ref q54])), (q2, .inl (E.2.1 0, 3000, .inl f111))] H := hP
          have hD : va_D A [(h0, .inr (10, [.int 0, .ref q1, .ref q2, .int kk, .ref q3, .ref q4, .ref q5, .ref q6, .ref q7, .ref q8, .ref q9, .ref q10, .ref q11, .ref q12, .ref q13, .ref q14, .ref q15, .ref q16, .ref q17, .int 0, .int 0, .int 0, .int 0, .ref q18, .ref q19, .ref q20, .ref q21, .int 0, .int 0, .ref q22, .ref q23, .int 0, .int 0, .int 0, .int 0, .int 0, .int 0, .int 0, .int 0, .ref q24, .int 0, .int 0, .int 0, .int 0, .ref q25, .ref q26, .ref q27, .ref q28, .ref q29, .ref q30, .ref q31, .ref q32, .int 0, .int 0, .ref q33, .ref q34, .ref q35, .int 0, .ref q36, .ref q37, .ref q38, .ref q39, .ref q40, .ref q41, .ref q42, .ref q43, .ref q44, .int 0, .ref q45, .ref q46, .ref q47, .ref q48, .ref q49, .int 0, .ref q50, .ref q51, .ref q52, .int 0, .int 0, .ref q53, .ref q54])), (q2, .inl (E.2.1 0, 3000, .inl f111))] := hD
          refine lv_aload_n hx hb d_Mo_sign_64 rfl (lv_at hl 2 rfl) ?_
          refine lv_dup hx hb d_Mo_sign_65 rfl ?_
          refine gk_get (b := h0) (ci := 10) (v := .int kk) X in_Mo hP 0 rfl rfl 3 (by decide) k_1358 rfl d_Mo_sign_66 ?_
          refine lv_iconst (v := 1) hx hb d_Mo_sign_69 (by decide) ?_
          refine lv_iadd hx hb d_Mo_sign_70 ?_
          refine lv_topi (fun x112 ex112 => ?_)
          refine gk_put (b := h0) (ci := 10) (v := .int x112) (ty := t_Mo 3) (ws' := [(h0, .inr (10, [.int 0, .ref q1, .ref q2, .int x112, .ref q3, .ref q4, .ref q5, .ref q6, .ref q7, .ref q8, .ref q9, .ref q10, .ref q11, .ref q12, .ref q13, .ref q14, .ref q15, .ref q16, .ref q17, .int 0, .int 0, .int 0, .int 0, .ref q18, .ref q19, .ref q20, .ref q21, .int 0, .int 0, .ref q22, .ref q23, .int 0, .int 0, .int 0, .int 0, .int 0, .int 0, .int 0, .int 0, .ref q24, .int 0, .int 0, .int 0, .int 0, .ref q25, .ref q26, .ref q27, .ref q28, .ref q29, .ref q30, .ref q31, .ref q32, .int 0, .int 0, .ref q33, .ref q34, .ref q35, .int 0, .ref q36, .ref q37, .ref q38, .ref q39, .ref q40, .ref q41, .ref q42, .ref q43, .ref q44, .int 0, .ref q45, .ref q46, .ref q47, .ref q48, .ref q49, .int 0, .ref q50, .ref q51, .ref q52, .int 0, .int 0, .ref q53, .ref q54])), (q2, .inl (E.2.1 0, 3000, .inl f111))]) X in_Mo t_Mo t_Mo_ok n_Mo hP hD hS 0 rfl rfl 3 (by decide) k_1358 (Or.inl rfl) (t_Mo_ok 3 (by decide)) rfl rfl (Nat.le_of_ble_eq_true rfl) d_Mo_sign_71 rfl (fun H locs hP hD hS => ?_)
          refine lv_iinc (v := 48) (lv' := [(3, .int 48), (4, .int x103), (0, .ref h0), (1, .long cc)]) hx hb d_Mo_sign_74 hl (k := 1) rfl (by decide) (by decide) rfl (fun ls hl => ?_)
          refine lv_goto (tgt := 8) hx hb d_Mo_sign_77 (by decide) ?_
          exact l_Mo_sign_7 l E h0 q1 q2 q3 q4 q5 q6 q7 q8 q9 q10 q11 q12 q13 q14 q15 q16 q17 q18 q19 q20 q21 q22 q23 q24 q25 q26 q27 q28 q29 q30 q31 q32 q33 q34 q35 q36 q37 q38 q39 q40 q41 q42 q43 q44 q45 q46 q47 q48 q49 q50 q51 q52 q53 q54 cc X x112 f111 _ _ _ (by rw [ex112]; exact gk_k2 hk c110) (lv_sub hl [0, 2, 3] rfl) hP hD hS

set_option maxHeartbeats 4000000 in
set_option maxRecDepth 100000 in
theorem c_Mo_sign (l : Launch) (E : gk_E) (h0 : Nat) (q1 : Nat) (q2 : Nat) (q3 : Nat) (q4 : Nat) (q5 : Nat) (q6 : Nat) (q7 : Nat) (q8 : Nat) (q9 : Nat) (q10 : Nat) (q11 : Nat) (q12 : Nat) (q13 : Nat) (q14 : Nat) (q15 : Nat) (q16 : Nat) (q17 : Nat) (q18 : Nat) (q19 : Nat) (q20 : Nat) (q21 : Nat) (q22 : Nat) (q23 : Nat) (q24 : Nat) (q25 : Nat) (q26 : Nat) (q27 : Nat) (q28 : Nat) (q29 : Nat) (q30 : Nat) (q31 : Nat) (q32 : Nat) (q33 : Nat) (q34 : Nat) (q35 : Nat) (q36 : Nat) (q37 : Nat) (q38 : Nat) (q39 : Nat) (q40 : Nat) (q41 : Nat) (q42 : Nat) (q43 : Nat) (q44 : Nat) (q45 : Nat) (q46 : Nat) (q47 : Nat) (q48 : Nat) (q49 : Nat) (q50 : Nat) (q51 : Nat) (q52 : Nat) (q53 : Nat) (q54 : Nat) (cc : Int64) (sz : Nat) : gk_M l E y_Mo_sign b_Mo_sign 5 (none) 0 0 0 [.ref h0, .long cc] [(h0, .inr (10, [.int 0, .ref q1, .ref q2, .int 0, .ref q3, .ref q4, .ref q5, .ref q6, .ref q7, .ref q8, .ref q9, .ref q10, .ref q11, .ref q12, .ref q13, .ref q14, .ref q15, .ref q16, .ref q17, .int 0, .int 0, .int 0, .int 0, .ref q18, .ref q19, .ref q20, .ref q21, .int 0, .int 0, .ref q22, .ref q23, .int 0, .int 0, .int 0, .int 0, .int 0, .int 0, .int 0, .int 0, .ref q24, .int 0, .int 0, .int 0, .int 0, .ref q25, .ref q26, .ref q27, .ref q28, .ref q29, .ref q30, .ref q31, .ref q32, .int 0, .int 0, .ref q33, .ref q34, .ref q35, .int 0, .ref q36, .ref q37, .ref q38, .ref q39, .ref q40, .ref q41, .ref q42, .ref q43, .ref q44, .int 0, .ref q45, .ref q46, .ref q47, .ref q48, .ref q49, .int 0, .ref q50, .ref q51, .ref q52, .int 0, .int 0, .ref q53, .ref q54])), (q2, .inl (E.2.1 0, 3000, .inl (fun _ => 0)))] sz (fun r w => r = none ∧ w = []) := by
  refine gk_met (by decide) (Nat.le_of_ble_eq_true rfl) ?_
  intro p e s m below meth c A ls X hl hP hD hS
  have hx := X.1
  have hb := X.2.1
  have hown := X.2.2.2.1
  have hts := X.2.2.2.2.1
  have hZ := X.2.2.2.2.2.2.1
  have hr := X.2.2.2.2.2.2.2.2.1
  have hlocks : meth.locks = false := X.2.2.2.2.2.2.2.2.2.1
  have hl : lv_has ls 5 [(0, .ref h0), (1, .long cc)] := hl
  refine lv_aload_n hx hb d_Mo_sign_0 rfl (lv_at hl 0 rfl) ?_
  refine lv_iconst (v := 0) hx hb d_Mo_sign_1 (by decide) ?_
  refine gk_put (b := h0) (ci := 10) (v := .int 0) (ty := t_Mo 0) (ws' := [(h0, .inr (10, [.int 0, .ref q1, .ref q2, .int 0, .ref q3, .ref q4, .ref q5, .ref q6, .ref q7, .ref q8, .ref q9, .ref q10, .ref q11, .ref q12, .ref q13, .ref q14, .ref q15, .ref q16, .ref q17, .int 0, .int 0, .int 0, .int 0, .ref q18, .ref q19, .ref q20, .ref q21, .int 0, .int 0, .ref q22, .ref q23, .int 0, .int 0, .int 0, .int 0, .int 0, .int 0, .int 0, .int 0, .ref q24, .int 0, .int 0, .int 0, .int 0, .ref q25, .ref q26, .ref q27, .ref q28, .ref q29, .ref q30, .ref q31, .ref q32, .int 0, .int 0, .ref q33, .ref q34, .ref q35, .int 0, .ref q36, .ref q37, .ref q38, .ref q39, .ref q40, .ref q41, .ref q42, .ref q43, .ref q44, .int 0, .ref q45, .ref q46, .ref q47, .ref q48, .ref q49, .int 0, .ref q50, .ref q51, .ref q52, .int 0, .int 0, .ref q53, .ref q54])), (q2, .inl (E.2.1 0, 3000, .inl (fun _ => 0)))]) X in_Mo t_Mo t_Mo_ok n_Mo hP hD hS 0 rfl rfl 0 (by decide) k_1355 (Or.inl rfl) (t_Mo_ok 0 (by decide)) rfl rfl (Nat.le_of_ble_eq_true rfl) d_Mo_sign_2 rfl (fun H locs hP hD hS => ?_)
  refine lv_bipush (v := 56) hx hb d_Mo_sign_5 (by decide) ?_
  refine lv_istore_n (lv' := [(3, .int 56), (0, .ref h0), (1, .long cc)]) hx hb d_Mo_sign_7 rfl hl (by decide) rfl (fun ls hl => ?_)
  exact l_Mo_sign_8 l E h0 q1 q2 q3 q4 q5 q6 q7 q8 q9 q10 q11 q12 q13 q14 q15 q16 q17 q18 q19 q20 q21 q22 q23 q24 q25 q26 q27 q28 q29 q30 q31 q32 q33 q34 q35 q36 q37 q38 q39 q40 q41 q42 q43 q44 q45 q46 q47 q48 q49 q50 q51 q52 q53 q54 cc X 0 (fun _ => 0) _ _ _ (by decide) (lv_sub hl [0, 1, 2] rfl) hP hD hS
