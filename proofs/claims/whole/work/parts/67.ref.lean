theorem rBl_c {f : Int → Int} {m : Nat} {i : Int} (h : f i ≠ 10) : rBl f (m + 1) true i = rBl f m true (i + 1) := by
  rw [rBl, if_neg h]
  by_cases h59 : f i = 59
  · rw [if_pos h59]
  · rw [if_neg h59, if_neg (fun q => by cases q.2)]
set_option maxRecDepth 100000 in
set_option maxHeartbeats 4000000 in
/-- skip -/
theorem m_X10_skip (g : pw_P) (l : Launch) {w : pw_W} {b : Nat} {B : Nat → Nat} {x : Nat → Int} (h0 : w 1000 = (b, some (mdE B x))) {f : Int → Int} {len : Nat} (a12 : w 1013 = (B 12, some (AI g 3000 f))) (hfc : ∀ j, 0 ≤ f j ∧ f j < 256) (hlen : len ≤ 3000) (h13 : x 13 = ((len : Nat) : Int)) {i0 tg : Int} (h20 : x 20 = i0) (hi0 : 0 ≤ i0 ∧ i0 ≤ ((len : Nat) : Int)) (htg : tg = rBl f (((len : Nat) : Int) - i0).toNat false i0) : pw_M g l yX10_skip cX10_skip 2 none { frames := 0, cells := 0, slots := 0, locals := 0 } [.ref b] w (fun r w' => r = none ∧ w' 1000 = (b, some (mdE B (va_up x 20 tg))) ∧ ∀ k, k ≠ 1000 → w' k = w k) := by
  refine pw_M.of (by decide) (Nat.le_of_ble_eq_true rfl) rfl ?_
  intro p e s m args below meth c C hr hn
  have hfi : ∀ j, inI (f j) := fun j => by have := hfc j; omega
  have loop : ∀ kk : Nat, (∀ (w1 : pw_W) (i : Int), i + kk = ((len : Nat) : Int) ∧ 0 ≤ i → w1 1000 = (b, some (mdE B (va_up x 20 i))) → w1 1013 = (B 12, some (AI g 3000 f)) → rBl f kk false i = tg → (∀ k, k ≠ 1000 → w1 k = w k) → pw_G g p l e { frames := 0, cells := 0, slots := 0, locals := 0 } s m args below meth c 2 (pw_Q g below (fun r w' => r = none ∧ w' 1000 = (b, some (mdE B (va_up x 20 tg))) ∧ ∀ k, k ≠ 1000 → w' k = w k) args s { frames := 0, cells := 0, slots := 0, locals := 0 }) 0 0 2 [(0, .ref b), (1, .int (iZ 1))] [] w1) ∧ (∀ (w1 : pw_W) (i : Int), i + kk = ((len : Nat) : Int) ∧ 0 ≤ i → w1 1000 = (b, some (mdE B (va_up x 20 i))) → w1 1013 = (B 12, some (AI g 3000 f)) → rBl f kk true i = tg → (∀ k, k ≠ 1000 → w1 k = w k) → pw_G g p l e { frames := 0, cells := 0, slots := 0, locals := 0 } s m args below meth c 2 (pw_Q g below (fun r w' => r = none ∧ w' 1000 = (b, some (mdE B (va_up x 20 tg))) ∧ ∀ k, k ≠ 1000 → w' k = w k) args s { frames := 0, cells := 0, slots := 0, locals := 0 }) 0 0 31 [(0, .ref b), (1, .int (iZ 1))] [] w1) := by
    intro kk
    induction kk with
    | zero =>
      have hO : ∀ (w1 : pw_W) (i : Int), i + (0 : Nat) = ((len : Nat) : Int) ∧ 0 ≤ i → w1 1000 = (b, some (mdE B (va_up x 20 i))) → w1 1013 = (B 12, some (AI g 3000 f)) → rBl f 0 false i = tg → (∀ k, k ≠ 1000 → w1 k = w k) → pw_G g p l e { frames := 0, cells := 0, slots := 0, locals := 0 } s m args below meth c 2 (pw_Q g below (fun r w' => r = none ∧ w' 1000 = (b, some (mdE B (va_up x 20 tg))) ∧ ∀ k, k ≠ 1000 → w' k = w k) args s { frames := 0, cells := 0, slots := 0, locals := 0 }) 0 0 2 [(0, .ref b), (1, .int (iZ 1))] [] w1 := by
        intro w1 i hk y0 y12 ht hf1
        refine pw_iload_n (i := 1) C dX10_skip_2 rfl rfl ?_
        refine pw_if_eq (tgt := 115) C (by omega) dX10_skip_3 (by decide) (fun h_11 => ?_) (fun h_11 => ?_)
        · exfalso; omega
        · refine pw_aload_n (i := 0) C dX10_skip_6 rfl rfl (Or.inr ⟨_, rfl⟩) ?_
          refine pw_get (j := 20) C cl_X10 fl_X10_201 (by decide) rfl y0 rfl dX10_skip_7 ?_
          refine pw_stk (st' := [.int (iZ i)]) rfl ?_
          refine pw_aload_n (i := 0) C dX10_skip_10 rfl rfl (Or.inr ⟨_, rfl⟩) ?_
          refine pw_get (j := 13) C cl_X10 fl_X10_204 (by decide) rfl y0 rfl dX10_skip_11 ?_
          refine pw_stk (st' := [.int (iZ (x 13)), .int (iZ i)]) rfl ?_
          refine pw_stk (st' := [.int (iZ ((len : Nat) : Int)), .int (iZ i)]) (by rw [h13]) ?_
          refine pw_icmp_ge (tgt := 115) C (by omega) (by omega) dX10_skip_14 (by decide) (fun h_12 => ?_) (fun h_12 => ?_)
          · exact pw_vret C hr dX10_skip_115 ⟨rfl, by rw [← ht, rBl]; exact y0, fun k hk => (rfl).trans (hf1 k hk)⟩
          · exfalso; omega
      refine ⟨hO, ?_⟩
      intro w1 i hk y0 y12 ht hf1
      refine pw_aload_n (i := 0) C dX10_skip_31 rfl rfl (Or.inr ⟨_, rfl⟩) ?_
      refine pw_get (j := 20) C cl_X10 fl_X10_201 (by decide) rfl y0 rfl dX10_skip_32 ?_
      refine pw_stk (st' := [.int (iZ i)]) rfl ?_
      refine pw_aload_n (i := 0) C dX10_skip_35 rfl rfl (Or.inr ⟨_, rfl⟩) ?_
      refine pw_get (j := 13) C cl_X10 fl_X10_204 (by decide) rfl y0 rfl dX10_skip_36 ?_
      refine pw_stk (st' := [.int (iZ (x 13)), .int (iZ i)]) rfl ?_
      refine pw_stk (st' := [.int (iZ ((len : Nat) : Int)), .int (iZ i)]) (by rw [h13]) ?_
      refine pw_icmp_ge (tgt := 2) C (by omega) (by omega) dX10_skip_39 (by decide) (fun h_301 => ?_) (fun h_301 => ?_)
      · exact hO w1 i hk y0 y12 (by rw [← ht, rBl, rBl]) hf1
      · exfalso; omega
    | succ kk ih =>
      have hO : ∀ (w1 : pw_W) (i : Int), i + (kk + 1 : Nat) = ((len : Nat) : Int) ∧ 0 ≤ i → w1 1000 = (b, some (mdE B (va_up x 20 i))) → w1 1013 = (B 12, some (AI g 3000 f)) → rBl f (kk + 1) false i = tg → (∀ k, k ≠ 1000 → w1 k = w k) → pw_G g p l e { frames := 0, cells := 0, slots := 0, locals := 0 } s m args below meth c 2 (pw_Q g below (fun r w' => r = none ∧ w' 1000 = (b, some (mdE B (va_up x 20 tg))) ∧ ∀ k, k ≠ 1000 → w' k = w k) args s { frames := 0, cells := 0, slots := 0, locals := 0 }) 0 0 2 [(0, .ref b), (1, .int (iZ 1))] [] w1 := by
        intro w1 i hk y0 y12 ht hf1
        refine pw_iload_n (i := 1) C dX10_skip_2 rfl rfl ?_
        refine pw_if_eq (tgt := 115) C (by omega) dX10_skip_3 (by decide) (fun h_101 => ?_) (fun h_101 => ?_)
        · exfalso; omega
        · refine pw_aload_n (i := 0) C dX10_skip_6 rfl rfl (Or.inr ⟨_, rfl⟩) ?_
          refine pw_get (j := 20) C cl_X10 fl_X10_201 (by decide) rfl y0 rfl dX10_skip_7 ?_
          refine pw_stk (st' := [.int (iZ i)]) rfl ?_
          refine pw_aload_n (i := 0) C dX10_skip_10 rfl rfl (Or.inr ⟨_, rfl⟩) ?_
          refine pw_get (j := 13) C cl_X10 fl_X10_204 (by decide) rfl y0 rfl dX10_skip_11 ?_
          refine pw_stk (st' := [.int (iZ (x 13)), .int (iZ i)]) rfl ?_
          refine pw_stk (st' := [.int (iZ ((len : Nat) : Int)), .int (iZ i)]) (by rw [h13]) ?_
          refine pw_icmp_ge (tgt := 115) C (by omega) (by omega) dX10_skip_14 (by decide) (fun h_102 => ?_) (fun h_102 => ?_)
          · exfalso; omega
          · refine pw_aload_n (i := 0) C dX10_skip_17 rfl rfl (Or.inr ⟨_, rfl⟩) ?_
            refine pw_get (j := 12) C cl_X10 fl_X10_43 (by decide) rfl y0 rfl dX10_skip_18 ?_
            refine pw_stk (st' := [.ref (B 12)]) rfl ?_
            refine pw_aload_n (i := 0) C dX10_skip_21 rfl rfl (Or.inr ⟨_, rfl⟩) ?_
            refine pw_get (j := 20) C cl_X10 fl_X10_201 (by decide) rfl y0 rfl dX10_skip_22 ?_
            refine pw_stk (st' := [.int (iZ i), .ref (B 12)]) rfl ?_
            have g_103 := hfi i
            refine pw_iald C y12 ⟨by omega, by omega, by omega⟩ dX10_skip_25 ?_
            refine pw_bipush C dX10_skip_26 (by decide) ?_
            refine pw_icmp_ne (tgt := 69) C (by omega) (by omega) dX10_skip_28 (by decide) (fun h_104 => ?_) (fun h_104 => ?_)
            · refine pw_aload_n (i := 0) C dX10_skip_69 rfl rfl (Or.inr ⟨_, rfl⟩) ?_
              refine pw_get (j := 12) C cl_X10 fl_X10_43 (by decide) rfl y0 rfl dX10_skip_70 ?_
              refine pw_stk (st' := [.ref (B 12)]) rfl ?_
              refine pw_aload_n (i := 0) C dX10_skip_73 rfl rfl (Or.inr ⟨_, rfl⟩) ?_
              refine pw_get (j := 20) C cl_X10 fl_X10_201 (by decide) rfl y0 rfl dX10_skip_74 ?_
              refine pw_stk (st' := [.int (iZ i), .ref (B 12)]) rfl ?_
              have g_105 := hfi i
              refine pw_iald C y12 ⟨by omega, by omega, by omega⟩ dX10_skip_77 ?_
              refine pw_bipush C dX10_skip_78 (by decide) ?_
              refine pw_icmp_eq (tgt := 97) C (by omega) (by omega) dX10_skip_80 (by decide) (fun h_106 => ?_) (fun h_106 => ?_)
              · refine pw_aload_n (i := 0) C dX10_skip_97 rfl rfl (Or.inr ⟨_, rfl⟩) ?_
                refine pw_dup C dX10_skip_98 rfl ?_
                refine pw_get (j := 20) C cl_X10 fl_X10_201 (by decide) rfl y0 rfl dX10_skip_99 ?_
                refine pw_stk (st' := [.int (iZ i), .ref b]) rfl ?_
                refine pw_iconst C dX10_skip_102 ?_
                refine pw_iadd C dX10_skip_103 ?_
                refine pw_put (j := 20) C cl_X10 fl_X10_201 (by decide) rfl rfl rfl rfl rfl y0 (Nat.le_of_ble_eq_true rfl) dX10_skip_104 (fun w_109 k_107 o_108 => ?_)
                have k_110 : w_109 1000 = (b, some (mdE B (va_up (va_up x 20 i) 20 (i + 1)))) := k_107
                refine pw_goto (tgt := 2) C dX10_skip_107 (by decide) ?_
                have c_111 := (o_108 1013 (by omega)).trans y12
                exact ih.1 w_109 (i + 1) (by omega) k_110 c_111 (by rw [← ht, rBl, if_neg (by omega), if_neg (by omega), if_neg (fun q => q.1 (by omega))]) (fun k hk => ((o_108 k hk)).trans (hf1 k hk))
              · refine pw_aload_n (i := 0) C dX10_skip_83 rfl rfl (Or.inr ⟨_, rfl⟩) ?_
                refine pw_get (j := 12) C cl_X10 fl_X10_43 (by decide) rfl y0 rfl dX10_skip_84 ?_
                refine pw_stk (st' := [.ref (B 12)]) rfl ?_
                refine pw_aload_n (i := 0) C dX10_skip_87 rfl rfl (Or.inr ⟨_, rfl⟩) ?_
                refine pw_get (j := 20) C cl_X10 fl_X10_201 (by decide) rfl y0 rfl dX10_skip_88 ?_
                refine pw_stk (st' := [.int (iZ i), .ref (B 12)]) rfl ?_
                have g_112 := hfi i
                refine pw_iald C y12 ⟨by omega, by omega, by omega⟩ dX10_skip_91 ?_
                refine pw_bipush C dX10_skip_92 (by decide) ?_
                refine pw_icmp_ne (tgt := 110) C (by omega) (by omega) dX10_skip_94 (by decide) (fun h_113 => ?_) (fun h_113 => ?_)
                · refine pw_iconst C dX10_skip_110 ?_
                  refine pw_istore_n (i := 1) (lv' := [(0, .ref b), (1, .int (iZ 0))]) C dX10_skip_111 rfl (by decide) rfl ?_
                  refine pw_goto (tgt := 2) C dX10_skip_112 (by decide) ?_
                  refine pw_iload_n (i := 1) C dX10_skip_2 rfl rfl ?_
                  refine pw_if_eq (tgt := 115) C (by omega) dX10_skip_3 (by decide) (fun h_114 => ?_) (fun h_114 => ?_)
                  · exact pw_vret C hr dX10_skip_115 ⟨rfl, by rw [← ht, rBl, if_neg (by omega), if_neg (by omega), if_pos ⟨by omega, rfl⟩]; exact y0, fun k hk => (rfl).trans (hf1 k hk)⟩
                  · exfalso; omega
                · refine pw_aload_n (i := 0) C dX10_skip_97 rfl rfl (Or.inr ⟨_, rfl⟩) ?_
                  refine pw_dup C dX10_skip_98 rfl ?_
                  refine pw_get (j := 20) C cl_X10 fl_X10_201 (by decide) rfl y0 rfl dX10_skip_99 ?_
                  refine pw_stk (st' := [.int (iZ i), .ref b]) rfl ?_
                  refine pw_iconst C dX10_skip_102 ?_
                  refine pw_iadd C dX10_skip_103 ?_
                  refine pw_put (j := 20) C cl_X10 fl_X10_201 (by decide) rfl rfl rfl rfl rfl y0 (Nat.le_of_ble_eq_true rfl) dX10_skip_104 (fun w_117 k_115 o_116 => ?_)
                  have k_118 : w_117 1000 = (b, some (mdE B (va_up (va_up x 20 i) 20 (i + 1)))) := k_115
                  refine pw_goto (tgt := 2) C dX10_skip_107 (by decide) ?_
                  have c_119 := (o_116 1013 (by omega)).trans y12
                  exact ih.1 w_117 (i + 1) (by omega) k_118 c_119 (by rw [← ht, rBl, if_pos (by omega)]) (fun k hk => ((o_116 k hk)).trans (hf1 k hk))
            · refine pw_aload_n (i := 0) C dX10_skip_31 rfl rfl (Or.inr ⟨_, rfl⟩) ?_
              refine pw_get (j := 20) C cl_X10 fl_X10_201 (by decide) rfl y0 rfl dX10_skip_32 ?_
              refine pw_stk (st' := [.int (iZ i)]) rfl ?_
              refine pw_aload_n (i := 0) C dX10_skip_35 rfl rfl (Or.inr ⟨_, rfl⟩) ?_
              refine pw_get (j := 13) C cl_X10 fl_X10_204 (by decide) rfl y0 rfl dX10_skip_36 ?_
              refine pw_stk (st' := [.int (iZ (x 13)), .int (iZ i)]) rfl ?_
              refine pw_stk (st' := [.int (iZ ((len : Nat) : Int)), .int (iZ i)]) (by rw [h13]) ?_
              refine pw_icmp_ge (tgt := 2) C (by omega) (by omega) dX10_skip_39 (by decide) (fun h_120 => ?_) (fun h_120 => ?_)
              · exfalso; omega
              · refine pw_aload_n (i := 0) C dX10_skip_42 rfl rfl (Or.inr ⟨_, rfl⟩) ?_
                refine pw_get (j := 12) C cl_X10 fl_X10_43 (by decide) rfl y0 rfl dX10_skip_43 ?_
                refine pw_stk (st' := [.ref (B 12)]) rfl ?_
                refine pw_aload_n (i := 0) C dX10_skip_46 rfl rfl (Or.inr ⟨_, rfl⟩) ?_
                refine pw_get (j := 20) C cl_X10 fl_X10_201 (by decide) rfl y0 rfl dX10_skip_47 ?_
                refine pw_stk (st' := [.int (iZ i), .ref (B 12)]) rfl ?_
                have g_121 := hfi i
                refine pw_iald C y12 ⟨by omega, by omega, by omega⟩ dX10_skip_50 ?_
                refine pw_bipush C dX10_skip_51 (by decide) ?_
                refine pw_icmp_eq (tgt := 2) C (by omega) (by omega) dX10_skip_53 (by decide) (fun h_122 => ?_) (fun h_122 => ?_)
                · exfalso; omega
                · refine pw_aload_n (i := 0) C dX10_skip_56 rfl rfl (Or.inr ⟨_, rfl⟩) ?_
                  refine pw_dup C dX10_skip_57 rfl ?_
                  refine pw_get (j := 20) C cl_X10 fl_X10_201 (by decide) rfl y0 rfl dX10_skip_58 ?_
                  refine pw_stk (st' := [.int (iZ i), .ref b]) rfl ?_
                  refine pw_iconst C dX10_skip_61 ?_
                  refine pw_iadd C dX10_skip_62 ?_
                  refine pw_put (j := 20) C cl_X10 fl_X10_201 (by decide) rfl rfl rfl rfl rfl y0 (Nat.le_of_ble_eq_true rfl) dX10_skip_63 (fun w_125 k_123 o_124 => ?_)
                  have k_126 : w_125 1000 = (b, some (mdE B (va_up (va_up x 20 i) 20 (i + 1)))) := k_123
                  refine pw_goto (tgt := 31) C dX10_skip_66 (by decide) ?_
                  have c_127 := (o_124 1013 (by omega)).trans y12
                  exact ih.2 w_125 (i + 1) (by omega) k_126 c_127 (by rw [← ht, rBl, if_neg (by omega), if_pos (by omega)]) (fun k hk => ((o_124 k hk)).trans (hf1 k hk))
      refine ⟨hO, ?_⟩
      intro w1 i hk y0 y12 ht hf1
      refine pw_aload_n (i := 0) C dX10_skip_31 rfl rfl (Or.inr ⟨_, rfl⟩) ?_
      refine pw_get (j := 20) C cl_X10 fl_X10_201 (by decide) rfl y0 rfl dX10_skip_32 ?_
      refine pw_stk (st' := [.int (iZ i)]) rfl ?_
      refine pw_aload_n (i := 0) C dX10_skip_35 rfl rfl (Or.inr ⟨_, rfl⟩) ?_
      refine pw_get (j := 13) C cl_X10 fl_X10_204 (by decide) rfl y0 rfl dX10_skip_36 ?_
      refine pw_stk (st' := [.int (iZ (x 13)), .int (iZ i)]) rfl ?_
      refine pw_stk (st' := [.int (iZ ((len : Nat) : Int)), .int (iZ i)]) (by rw [h13]) ?_
      refine pw_icmp_ge (tgt := 2) C (by omega) (by omega) dX10_skip_39 (by decide) (fun h_401 => ?_) (fun h_401 => ?_)
      · exfalso; omega
      · refine pw_aload_n (i := 0) C dX10_skip_42 rfl rfl (Or.inr ⟨_, rfl⟩) ?_
        refine pw_get (j := 12) C cl_X10 fl_X10_43 (by decide) rfl y0 rfl dX10_skip_43 ?_
        refine pw_stk (st' := [.ref (B 12)]) rfl ?_
        refine pw_aload_n (i := 0) C dX10_skip_46 rfl rfl (Or.inr ⟨_, rfl⟩) ?_
        refine pw_get (j := 20) C cl_X10 fl_X10_201 (by decide) rfl y0 rfl dX10_skip_47 ?_
        refine pw_stk (st' := [.int (iZ i), .ref (B 12)]) rfl ?_
        have g_402 := hfi i
        refine pw_iald C y12 ⟨by omega, by omega, by omega⟩ dX10_skip_50 ?_
        refine pw_bipush C dX10_skip_51 (by decide) ?_
        refine pw_icmp_eq (tgt := 2) C (by omega) (by omega) dX10_skip_53 (by decide) (fun h_403 => ?_) (fun h_403 => ?_)
        · exact hO w1 i hk y0 y12 (by rw [← ht, rBl, rBl, if_pos (by omega), if_pos (by omega)]) hf1
        · refine pw_aload_n (i := 0) C dX10_skip_56 rfl rfl (Or.inr ⟨_, rfl⟩) ?_
          refine pw_dup C dX10_skip_57 rfl ?_
          refine pw_get (j := 20) C cl_X10 fl_X10_201 (by decide) rfl y0 rfl dX10_skip_58 ?_
          refine pw_stk (st' := [.int (iZ i), .ref b]) rfl ?_
          refine pw_iconst C dX10_skip_61 ?_
          refine pw_iadd C dX10_skip_62 ?_
          refine pw_put (j := 20) C cl_X10 fl_X10_201 (by decide) rfl rfl rfl rfl rfl y0 (Nat.le_of_ble_eq_true rfl) dX10_skip_63 (fun w_406 k_404 o_405 => ?_)
          have k_407 : w_406 1000 = (b, some (mdE B (va_up (va_up x 20 i) 20 (i + 1)))) := k_404
          refine pw_goto (tgt := 31) C dX10_skip_66 (by decide) ?_
          have c_408 := (o_405 1013 (by omega)).trans y12
          exact ih.2 w_406 (i + 1) (by omega) k_407 c_408 (by rw [← ht, rBl_c (by omega)]) (fun k hk => ((o_405 k hk)).trans (hf1 k hk))
  refine pw_iconst C dX10_skip_0 ?_
  refine pw_istore_n (i := 1) (lv' := [(0, .ref b), (1, .int (iZ 1))]) C dX10_skip_1 rfl (by decide) rfl ?_
  exact (loop (((len : Nat) : Int) - i0).toNat).1 w i0 (by omega) (by rw [← h20]; exact h0) a12 htg.symm (fun _ _ => rfl)

set_option maxRecDepth 100000 in
set_option maxHeartbeats 4000000 in
/-- bad -/
theorem m_X10_bad (g : pw_P) (l : Launch) {w : pw_W} {b : Nat} {B : Nat → Nat} {x : Nat → Int} (h0 : w 1000 = (b, some (mdE B x))) {fa pl : Int} (h21 : x 21 = 0) : pw_M g l yX10_bad cX10_bad 3 none { frames := 0, cells := 0, slots := 0, locals := 0 } [.ref b, .int (iZ fa), .int (iZ pl)] w (fun r w' => r = none ∧ w' 1000 = (b, some (mdE B (va_up (va_up x 21 fa) 22 pl))) ∧ ∀ k, k ≠ 1000 → w' k = w k) := by
  refine pw_M.of (by decide) (Nat.le_of_ble_eq_true rfl) rfl ?_
  intro p e s m args below meth c C hr hn
  refine pw_aload_n (i := 0) C dX10_bad_0 rfl rfl (Or.inr ⟨_, rfl⟩) ?_
  refine pw_get (j := 21) C cl_X10 fl_X10_207 (by decide) rfl h0 rfl dX10_bad_1 ?_
  refine pw_stk (st' := [.int (iZ (x 21))]) rfl ?_
  refine pw_stk (st' := [.int (iZ 0)]) (by rw [h21]) ?_
  refine pw_if_eq (tgt := 8) C (by omega) dX10_bad_4 (by decide) (fun h_1 => ?_) (fun h_1 => ?_)
  · refine pw_aload_n (i := 0) C dX10_bad_8 rfl rfl (Or.inr ⟨_, rfl⟩) ?_
    refine pw_iload_n (i := 1) C dX10_bad_9 rfl rfl ?_
    refine pw_put (j := 21) C cl_X10 fl_X10_207 (by decide) rfl rfl rfl rfl rfl h0 (Nat.le_of_ble_eq_true rfl) dX10_bad_10 (fun w_4 k_2 o_3 => ?_)
    have k_5 : w_4 1000 = (b, some (mdE B (va_up x 21 fa))) := k_2
    refine pw_aload_n (i := 0) C dX10_bad_13 rfl rfl (Or.inr ⟨_, rfl⟩) ?_
    refine pw_iload_n (i := 2) C dX10_bad_14 rfl rfl ?_
    refine pw_put (j := 22) C cl_X10 fl_X10_55 (by decide) rfl rfl rfl rfl rfl k_5 (Nat.le_of_ble_eq_true rfl) dX10_bad_15 (fun w_8 k_6 o_7 => ?_)
    have k_9 : w_8 1000 = (b, some (mdE B (va_up (va_up x 21 fa) 22 pl))) := k_6
    exact pw_vret C hr dX10_bad_18 ⟨rfl, k_9, fun k hk => (o_7 k hk).trans (o_3 k hk)⟩
  · exfalso; omega

