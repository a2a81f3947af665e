theorem wf_var {T : List Dn} {vs : Ob → Bool} {x : Ob} (hp : obP x = false) (hv : obV x = true) (h : (wf2 T vs x).1 = true) : vs x = true := by
  cases x <;> first | (cases hp; done) | (simp only [wf2] at h; rw [if_pos hv] at h; exact h)
theorem EvT.base {g : pw_P} {w : pw_W} {b : Nat} {B : Nat → Nat} {x : Nat → Int} {T : List Dn} {be : Bds} {fu : Nat} {NB : Int} {s0 : Nat} {t0 t : Int → Ob} {n0 n : Int} {mu : Nat} {R : Nat × Ob × Nat × Nat} (h : EvT g w b B x T be fu NB s0 t n mu R) (he : Ext t0 n0 t n) : EvT g w b B x T be fu NB s0 t0 n0 mu R := by
  obtain ⟨aw, S, k, wy, dn, vl, li, t, n, sN, fZ, g1, g2, g3, g4, g5, g6, fv, h1, h2, h3⟩ := h
  exact ⟨aw, S, k, wy, dn, vl, li, t, n, sN, fZ, g1, g2, g3, g4, g5, g6, fv, h1, he.tr h2, h3⟩
abbrev evF (w w' : pw_W) : Prop := ∀ k, (k < 1000 ∨ (1000 < k ∧ k < 1056) ∨ 1063 < k) → w' k = w k
set_option maxRecDepth 100000 in
set_option maxHeartbeats 4000000 in
/-- beginEval -/
theorem m_X10_beginEval (g : pw_P) (l : Launch) {w : pw_W} {b : Nat} {B : Nat → Nat} {x : Nat → Int} {T : List Dn} {be : Bds} {fu : Nat} {NB : Int} {s0 : Nat} {S : List Fr} {k : Nat} {dn vl li : Int} {t : Int → Ob} {n : Int} {sN : Nat} {fZ g1 g2 g3 g4 g5 g6 fv : Int → Int} (h39 : x 39 = ((fu : Nat) : Int)) (h32 : x 32 = ((T.length : Nat) : Int)) (h37 : x 37 = -1) (hfu : fu ≤ 1000) (hTo : TOk T) (hTn : TNs T) (hNB4 : NB ≤ 40000) (hM : EvM g w b B x T be fu NB s0 1 S k 0 dn vl li t n sN fZ g1 g2 g3 g4 g5 g6 fv) {o d0 ba : Int} {X : Ob} {e0 : Bds} (ho : Vl t n o X) (hs : ScM t n T be fv d0 ba e0 (vsS S)) (hdi : inI d0 ∧ inI ba) (hwf : (wf2 T (eHas e0) X).1 = true) (hok : FrsOk T S) : pw_M g l yX10_beginEval cX10_beginEval 6 none { frames := 3, cells := 0, slots := 0, locals := 63 } [.ref b, .int (iZ o), .int (iZ d0), .int (iZ ba), .int (iZ 0)] w (fun r w' => r = none ∧ (∀ (m nk : Nat) (R : Nat × Ob × Nat × Nat), mRun T fu (m + 1) 0 X e0 S k nk = R → EvT g w' b B x T be fu NB s0 t n (2 * m + 1) R) ∧ evF w w') := by
  refine pw_M.of (by decide) (Nat.le_of_ble_eq_true rfl) rfl ?_
  intro p e s m args below meth c C hr hn
  obtain ⟨a1, hR, hK, hD, hBd, hA, hFr, ⟨hSl, hkf⟩, hNB, hs0⟩ := id hM
  obtain ⟨b1, b2, b3, b4, b5, b6, b7, r1, r2, r3, r4, r5, r6, r7⟩ := id hA
  have hRn := hR.n
  obtain ⟨f1, f2, t1, t2, t3, t4, hT1, hT2, hbe⟩ := id hBd
  obtain ⟨fn, fm, dv, fb, d1, d2, d3, d4, ⟨u1, u2, u3, u4⟩, hDf, hT40⟩ := id hD
  obtain ⟨fL, fR, fH, fV, l0, l1, l4, l5, ⟨m0, m1, m4, m5⟩, hln⟩ := RS.lens hR
  have hor := Vl.rg hR ho
  have hv6s := hFr.v6
  refine pw_aload_n (i := 0) C dX10_beginEval_0 rfl rfl (Or.inr ⟨_, rfl⟩) ?_
  refine pw_iconst C dX10_beginEval_1 ?_
  refine pw_put (j := 66) C cl_X10 fl_X10_359 (by decide) rfl rfl rfl (by decide +kernel) (by decide +kernel) a1 (Nat.le_of_ble_eq_true rfl) dX10_beginEval_2 (fun w_3 k_1 o_2 => ?_)
  have k_4 : w_3 1000 = (b, some (mdE B (va_up (evX x n ((sN : Nat) : Int) ((k : Nat) : Int) ((S.length : Nat) : Int) ((vsS S : Nat) : Int) li 0 dn vl) 66 1))) := k_1
  refine pw_aload_n (i := 0) C dX10_beginEval_5 rfl rfl (Or.inr ⟨_, rfl⟩) ?_
  refine pw_iload_n (i := 1) C dX10_beginEval_6 rfl rfl ?_
  have R_5 := hR.same (w' := w_3) (fun k hk => (o_2 k (by omega)))
  refine pw_callV (As := [.int (iZ o)]) (st := []) C (m_X10_isConstant g l k_4 R_5 rfl rfl hK ho) my_X10_isConstant ml_X10_362 (pw_rec.of C k_4 cl_X10.1) rfl ⟨Nat.le_of_ble_eq_true rfl, Nat.le_of_ble_eq_true rfl⟩ ⟨by (try dsimp only); omega, by (try dsimp only); omega⟩ rfl (Nat.le_of_ble_eq_true rfl) dX10_beginEval_7 ?_
  rintro _ _ ⟨rfl, rfl⟩
  refine pw_stk (st' := [.int (iZ (b2i (isCn X)))]) rfl ?_
  refine pw_if_eqB (tgt := 23) C dX10_beginEval_10 (by decide) (fun h_6 => ?_) (fun h_6 => ?_)
  · refine pw_aload_n (i := 0) C dX10_beginEval_23 rfl rfl (Or.inr ⟨_, rfl⟩) ?_
    refine pw_iload_n (i := 1) C dX10_beginEval_24 rfl rfl ?_
    refine pw_callV (As := [.int (iZ o)]) (st := []) C (m_X10_isPair g l k_4 R_5 rfl rfl ho) my_X10_isPair ml_X10_195 (pw_rec.of C k_4 cl_X10.1) rfl ⟨Nat.le_of_ble_eq_true rfl, Nat.le_of_ble_eq_true rfl⟩ ⟨by (try dsimp only); omega, by (try dsimp only); omega⟩ rfl (Nat.le_of_ble_eq_true rfl) dX10_beginEval_25 ?_
    rintro _ _ ⟨rfl, rfl⟩
    refine pw_stk (st' := [.int (iZ (b2i (obP X)))]) rfl ?_
    refine pw_if_neB (tgt := 106) C dX10_beginEval_28 (by decide) (fun h_7 => ?_) (fun h_7 => ?_)
    · have hpx := h_7
      have hcl := isCn_n h_6 hpx hwf
      have hcc := (hln o X ho).1 hpx
      have hcr := Vl.rg hR hcc.2
      have hne : ¬ obCar X = oQuote := by have := hcl; unfold isCl at this; rw [hpx, Bool.true_and] at this; exact of_decide_eq_true this
      refine pw_aload_n (i := 0) C dX10_beginEval_106 rfl rfl (Or.inr ⟨_, rfl⟩) ?_
      refine pw_iconst C dX10_beginEval_107 ?_
      refine pw_put (j := 66) C cl_X10 fl_X10_359 (by decide) rfl rfl rfl (by decide +kernel) (by decide +kernel) k_4 (Nat.le_of_ble_eq_true rfl) dX10_beginEval_108 (fun w_10 k_8 o_9 => ?_)
      have k_11 : w_10 1000 = (b, some (mdE B (va_up (va_up (evX x n ((sN : Nat) : Int) ((k : Nat) : Int) ((S.length : Nat) : Int) ((vsS S : Nat) : Int) li 0 dn vl) 66 1) 66 0))) := k_8
      refine pw_aload_n (i := 0) C dX10_beginEval_111 rfl rfl (Or.inr ⟨_, rfl⟩) ?_
      refine pw_get (j := 61) C cl_X10 fl_X10_371 (by decide) rfl k_11 rfl dX10_beginEval_112 ?_
      refine pw_stk (st' := [.int (iZ ((S.length : Nat) : Int))]) rfl ?_
      refine pw_sipush C dX10_beginEval_115 (by decide) ?_
      refine pw_icmp_ne (tgt := 127) C (by omega) (by omega) dX10_beginEval_118 (by decide) (fun h_12 => ?_) (fun h_12 => ?_)
      · refine pw_iload C dX10_beginEval_127 rfl ?_
        refine pw_if_eq (tgt := 145) C (by omega) dX10_beginEval_129 (by decide) (fun h_13 => ?_) (fun h_13 => ?_)
        · refine pw_aload_n (i := 0) C dX10_beginEval_145 rfl rfl (Or.inr ⟨_, rfl⟩) ?_
          refine pw_get (j := 40) C cl_X10 fl_X10_380 (by decide) rfl k_11 rfl dX10_beginEval_146 ?_
          refine pw_stk (st' := [.int (iZ ((k : Nat) : Int))]) rfl ?_
          refine pw_aload_n (i := 0) C dX10_beginEval_149 rfl rfl (Or.inr ⟨_, rfl⟩) ?_
          refine pw_get (j := 39) C cl_X10 fl_X10_89 (by decide) rfl k_11 rfl dX10_beginEval_150 ?_
          refine pw_stk (st' := [.int (iZ (x 39)), .int (iZ ((k : Nat) : Int))]) rfl ?_
          refine pw_stk (st' := [.int (iZ ((fu : Nat) : Int)), .int (iZ ((k : Nat) : Int))]) (by rw [h39]) ?_
          refine pw_icmp_ne (tgt := 162) C (by omega) (by omega) dX10_beginEval_153 (by decide) (fun h_14 => ?_) (fun h_14 => ?_)
          · refine pw_aload_n (i := 0) C dX10_beginEval_162 rfl rfl (Or.inr ⟨_, rfl⟩) ?_
            refine pw_dup C dX10_beginEval_163 rfl ?_
            refine pw_get (j := 40) C cl_X10 fl_X10_380 (by decide) rfl k_11 rfl dX10_beginEval_164 ?_
            refine pw_stk (st' := [.int (iZ ((k : Nat) : Int)), .ref b]) rfl ?_
            refine pw_iconst C dX10_beginEval_167 ?_
            refine pw_iadd C dX10_beginEval_168 ?_
            refine pw_put (j := 40) C cl_X10 fl_X10_380 (by decide) rfl rfl rfl rfl rfl k_11 (Nat.le_of_ble_eq_true rfl) dX10_beginEval_169 (fun w_17 k_15 o_16 => ?_)
            have k_18 : w_17 1000 = (b, some (mdE B (va_up (va_up (va_up (evX x n ((sN : Nat) : Int) ((k : Nat) : Int) ((S.length : Nat) : Int) ((vsS S : Nat) : Int) li 0 dn vl) 66 1) 66 0) 40 (((k : Nat) : Int) + 1)))) := k_15
            refine pw_aload_n (i := 0) C dX10_beginEval_172 rfl rfl (Or.inr ⟨_, rfl⟩) ?_
            refine pw_dup C dX10_beginEval_173 rfl ?_
            refine pw_get (j := 64) C cl_X10 fl_X10_377 (by decide) rfl k_18 rfl dX10_beginEval_174 ?_
            refine pw_stk (st' := [.int (iZ li), .ref b]) rfl ?_
            refine pw_iconst C dX10_beginEval_177 ?_
            refine pw_isub C dX10_beginEval_178 ?_
            refine pw_put (j := 64) C cl_X10 fl_X10_377 (by decide) rfl rfl rfl rfl rfl k_18 (Nat.le_of_ble_eq_true rfl) dX10_beginEval_179 (fun w_21 k_19 o_20 => ?_)
            have k_22 : w_21 1000 = (b, some (mdE B (va_up (va_up (va_up (va_up (evX x n ((sN : Nat) : Int) ((k : Nat) : Int) ((S.length : Nat) : Int) ((vsS S : Nat) : Int) li 0 dn vl) 66 1) 66 0) 40 (((k : Nat) : Int) + 1)) 64 (li - 1)))) := k_19
            refine pw_aload_n (i := 0) C dX10_beginEval_182 rfl rfl (Or.inr ⟨_, rfl⟩) ?_
            refine pw_get (j := 55) C cl_X10 fl_X10_116 (by decide) rfl k_22 rfl dX10_beginEval_183 ?_
            refine pw_stk (st' := [.ref (B 55)]) rfl ?_
            refine pw_aload_n (i := 0) C dX10_beginEval_186 rfl rfl (Or.inr ⟨_, rfl⟩) ?_
            refine pw_get (j := 61) C cl_X10 fl_X10_371 (by decide) rfl k_22 rfl dX10_beginEval_187 ?_
            refine pw_stk (st' := [.int (iZ ((S.length : Nat) : Int)), .ref (B 55)]) rfl ?_
            refine pw_iload_n (i := 1) C dX10_beginEval_190 rfl rfl ?_
            have c_23 := ((o_20 1056 (by omega)).trans ((o_16 1056 (by omega)).trans ((o_9 1056 (by omega)).trans (o_2 1056 (by omega))))).trans b1
            refine pw_iast C c_23 ⟨by omega, by omega, by omega⟩ dX10_beginEval_191 (fun w_26 k_24 o_25 => ?_)
            refine pw_aload_n (i := 0) C dX10_beginEval_192 rfl rfl (Or.inr ⟨_, rfl⟩) ?_
            have c_27 := (o_25 1000 (by omega)).trans k_22
            refine pw_get (j := 56) C cl_X10 fl_X10_119 (by decide) rfl c_27 rfl dX10_beginEval_193 ?_
            refine pw_stk (st' := [.ref (B 56)]) rfl ?_
            refine pw_aload_n (i := 0) C dX10_beginEval_196 rfl rfl (Or.inr ⟨_, rfl⟩) ?_
            refine pw_get (j := 61) C cl_X10 fl_X10_371 (by decide) rfl c_27 rfl dX10_beginEval_197 ?_
            refine pw_stk (st' := [.int (iZ ((S.length : Nat) : Int)), .ref (B 56)]) rfl ?_
            refine pw_aload_n (i := 0) C dX10_beginEval_200 rfl rfl (Or.inr ⟨_, rfl⟩) ?_
            refine pw_get (j := 1) C cl_X10 fl_X10_14 (by decide) rfl c_27 rfl dX10_beginEval_201 ?_
            refine pw_stk (st' := [.ref (B 1), .int (iZ ((S.length : Nat) : Int)), .ref (B 56)]) rfl ?_
            refine pw_iload_n (i := 1) C dX10_beginEval_204 rfl rfl ?_
            have c_28 := ((o_25 1002 (by omega)).trans ((o_20 1002 (by omega)).trans ((o_16 1002 (by omega)).trans ((o_9 1002 (by omega)).trans (o_2 1002 (by omega)))))).trans l1
            have g_29 := m1 o
            refine pw_iald C c_28 ⟨by omega, by omega, by omega⟩ dX10_beginEval_205 ?_
            have c_30 := ((o_25 1057 (by omega)).trans ((o_20 1057 (by omega)).trans ((o_16 1057 (by omega)).trans ((o_9 1057 (by omega)).trans (o_2 1057 (by omega)))))).trans b2
            refine pw_iast C c_30 ⟨by omega, by omega, by omega⟩ dX10_beginEval_206 (fun w_33 k_31 o_32 => ?_)
            refine pw_aload_n (i := 0) C dX10_beginEval_207 rfl rfl (Or.inr ⟨_, rfl⟩) ?_
            have c_34 := (o_32 1000 (by omega)).trans c_27
            refine pw_get (j := 57) C cl_X10 fl_X10_122 (by decide) rfl c_34 rfl dX10_beginEval_208 ?_
            refine pw_stk (st' := [.ref (B 57)]) rfl ?_
            refine pw_aload_n (i := 0) C dX10_beginEval_211 rfl rfl (Or.inr ⟨_, rfl⟩) ?_
            refine pw_get (j := 61) C cl_X10 fl_X10_371 (by decide) rfl c_34 rfl dX10_beginEval_212 ?_
            refine pw_stk (st' := [.int (iZ ((S.length : Nat) : Int)), .ref (B 57)]) rfl ?_
            refine pw_aload_n (i := 0) C dX10_beginEval_215 rfl rfl (Or.inr ⟨_, rfl⟩) ?_
            refine pw_get (j := 63) C cl_X10 fl_X10_383 (by decide) rfl c_34 rfl dX10_beginEval_216 ?_
            refine pw_stk (st' := [.int (iZ ((vsS S : Nat) : Int)), .int (iZ ((S.length : Nat) : Int)), .ref (B 57)]) rfl ?_
            have c_35 := ((o_32 1058 (by omega)).trans ((o_25 1058 (by omega)).trans ((o_20 1058 (by omega)).trans ((o_16 1058 (by omega)).trans ((o_9 1058 (by omega)).trans (o_2 1058 (by omega))))))).trans b3
            refine pw_iast C c_35 ⟨by omega, by omega, by omega⟩ dX10_beginEval_219 (fun w_38 k_36 o_37 => ?_)
            refine pw_aload_n (i := 0) C dX10_beginEval_220 rfl rfl (Or.inr ⟨_, rfl⟩) ?_
            have c_39 := (o_37 1000 (by omega)).trans c_34
            refine pw_get (j := 58) C cl_X10 fl_X10_125 (by decide) rfl c_39 rfl dX10_beginEval_221 ?_
            refine pw_stk (st' := [.ref (B 58)]) rfl ?_
            refine pw_aload_n (i := 0) C dX10_beginEval_224 rfl rfl (Or.inr ⟨_, rfl⟩) ?_
            refine pw_get (j := 61) C cl_X10 fl_X10_371 (by decide) rfl c_39 rfl dX10_beginEval_225 ?_
            refine pw_stk (st' := [.int (iZ ((S.length : Nat) : Int)), .ref (B 58)]) rfl ?_
            refine pw_iload_n (i := 2) C dX10_beginEval_228 rfl rfl ?_
            have c_40 := ((o_37 1059 (by omega)).trans ((o_32 1059 (by omega)).trans ((o_25 1059 (by omega)).trans ((o_20 1059 (by omega)).trans ((o_16 1059 (by omega)).trans ((o_9 1059 (by omega)).trans (o_2 1059 (by omega)))))))).trans b4
            refine pw_iast C c_40 ⟨by omega, by omega, by omega⟩ dX10_beginEval_229 (fun w_43 k_41 o_42 => ?_)
            refine pw_aload_n (i := 0) C dX10_beginEval_230 rfl rfl (Or.inr ⟨_, rfl⟩) ?_
            have c_44 := (o_42 1000 (by omega)).trans c_39
            refine pw_get (j := 59) C cl_X10 fl_X10_128 (by decide) rfl c_44 rfl dX10_beginEval_231 ?_
            refine pw_stk (st' := [.ref (B 59)]) rfl ?_
            refine pw_aload_n (i := 0) C dX10_beginEval_234 rfl rfl (Or.inr ⟨_, rfl⟩) ?_
            refine pw_get (j := 61) C cl_X10 fl_X10_371 (by decide) rfl c_44 rfl dX10_beginEval_235 ?_
            refine pw_stk (st' := [.int (iZ ((S.length : Nat) : Int)), .ref (B 59)]) rfl ?_
            refine pw_iload_n (i := 3) C dX10_beginEval_238 rfl rfl ?_
            have c_45 := ((o_42 1060 (by omega)).trans ((o_37 1060 (by omega)).trans ((o_32 1060 (by omega)).trans ((o_25 1060 (by omega)).trans ((o_20 1060 (by omega)).trans ((o_16 1060 (by omega)).trans ((o_9 1060 (by omega)).trans (o_2 1060 (by omega))))))))).trans b5
            refine pw_iast C c_45 ⟨by omega, by omega, by omega⟩ dX10_beginEval_239 (fun w_48 k_46 o_47 => ?_)
            refine pw_aload_n (i := 0) C dX10_beginEval_240 rfl rfl (Or.inr ⟨_, rfl⟩) ?_
            have c_49 := (o_47 1000 (by omega)).trans c_44
            refine pw_get (j := 60) C cl_X10 fl_X10_131 (by decide) rfl c_49 rfl dX10_beginEval_241 ?_
            refine pw_stk (st' := [.ref (B 60)]) rfl ?_
            refine pw_aload_n (i := 0) C dX10_beginEval_244 rfl rfl (Or.inr ⟨_, rfl⟩) ?_
            refine pw_get (j := 61) C cl_X10 fl_X10_371 (by decide) rfl c_49 rfl dX10_beginEval_245 ?_
            refine pw_stk (st' := [.int (iZ ((S.length : Nat) : Int)), .ref (B 60)]) rfl ?_
            refine pw_iconst C dX10_beginEval_248 ?_
            have c_50 := ((o_47 1061 (by omega)).trans ((o_42 1061 (by omega)).trans ((o_37 1061 (by omega)).trans ((o_32 1061 (by omega)).trans ((o_25 1061 (by omega)).trans ((o_20 1061 (by omega)).trans ((o_16 1061 (by omega)).trans ((o_9 1061 (by omega)).trans (o_2 1061 (by omega)))))))))).trans b6
            refine pw_zast C c_50 ⟨by omega, by omega, by omega⟩ (by decide +kernel) dX10_beginEval_249 (fun w_53 k_51 o_52 => ?_)
            refine pw_aload_n (i := 0) C dX10_beginEval_250 rfl rfl (Or.inr ⟨_, rfl⟩) ?_
            refine pw_dup C dX10_beginEval_251 rfl ?_
            have c_54 := (o_52 1000 (by omega)).trans c_49
            refine pw_get (j := 61) C cl_X10 fl_X10_371 (by decide) rfl c_54 rfl dX10_beginEval_252 ?_
            refine pw_stk (st' := [.int (iZ ((S.length : Nat) : Int)), .ref b]) rfl ?_
            refine pw_iconst C dX10_beginEval_255 ?_
            refine pw_iadd C dX10_beginEval_256 ?_
            refine pw_put (j := 61) C cl_X10 fl_X10_371 (by decide) rfl rfl rfl rfl rfl c_54 (Nat.le_of_ble_eq_true rfl) dX10_beginEval_257 (fun w_57 k_55 o_56 => ?_)
            have k_58 : w_57 1000 = (b, some (mdE B (va_up (va_up (va_up (va_up (va_up (evX x n ((sN : Nat) : Int) ((k : Nat) : Int) ((S.length : Nat) : Int) ((vsS S : Nat) : Int) li 0 dn vl) 66 1) 66 0) 40 (((k : Nat) : Int) + 1)) 64 (li - 1)) 61 (((S.length : Nat) : Int) + 1)))) := k_55
            have c_59 := ((o_56 1056 (by omega)).trans ((o_52 1056 (by omega)).trans ((o_47 1056 (by omega)).trans ((o_42 1056 (by omega)).trans ((o_37 1056 (by omega)).trans (o_32 1056 (by omega))))))).trans k_24
            have c_60 := ((o_56 1057 (by omega)).trans ((o_52 1057 (by omega)).trans ((o_47 1057 (by omega)).trans ((o_42 1057 (by omega)).trans (o_37 1057 (by omega)))))).trans k_31
            have c_61 := ((o_56 1058 (by omega)).trans ((o_52 1058 (by omega)).trans ((o_47 1058 (by omega)).trans (o_42 1058 (by omega))))).trans k_36
            have c_62 := ((o_56 1059 (by omega)).trans ((o_52 1059 (by omega)).trans (o_47 1059 (by omega)))).trans k_41
            have c_63 := ((o_56 1060 (by omega)).trans (o_52 1060 (by omega))).trans k_46
            have c_64 := (o_56 1061 (by omega)).trans k_51
            have hpu := EvM.push (w' := w_57) (e := e0) (li' := li - 1) (vl' := vl) hM ho hpx hcc.2 hs (by omega) (by omega) hdi (by rw [k_58]; rfl) c_59 c_60 c_61 c_62 c_63 c_64 (fun k hk => (o_56 k (by omega)).trans ((o_52 k (by omega)).trans ((o_47 k (by omega)).trans ((o_42 k (by omega)).trans ((o_37 k (by omega)).trans ((o_32 k (by omega)).trans ((o_25 k (by omega)).trans ((o_20 k (by omega)).trans ((o_16 k (by omega)).trans ((o_9 k (by omega)).trans (o_2 k (by omega))))))))))))
            exact pw_vret C hr dX10_beginEval_260 ⟨rfl, fun m nk R hRR => ⟨0, _, k + 1, 0, 0, vl, li - 1, t, n, sN, fZ, _, _, _, _, _, _, fv, hpu, Ext.rf, Or.inr (Or.inl ⟨rfl, rfl, rfl, _, S, m, max nk (S.length + 1), rfl, rfl, ok_push (S := S) hpx hne hwf, hok, by omega, by rw [← hRR, mRun_0c hcl, if_neg (by omega), if_neg (by omega)]⟩)⟩, fun k hk => (o_56 k (by omega)).trans ((o_52 k (by omega)).trans ((o_47 k (by omega)).trans ((o_42 k (by omega)).trans ((o_37 k (by omega)).trans ((o_32 k (by omega)).trans ((o_25 k (by omega)).trans ((o_20 k (by omega)).trans ((o_16 k (by omega)).trans ((o_9 k (by omega)).trans (o_2 k (by omega)))))))))))⟩
          · refine pw_aload_n (i := 0) C dX10_beginEval_156 rfl rfl (Or.inr ⟨_, rfl⟩) ?_
            refine pw_iconst C dX10_beginEval_157 ?_
            refine pw_put (j := 65) C cl_X10 fl_X10_374 (by decide) rfl rfl rfl rfl rfl k_11 (Nat.le_of_ble_eq_true rfl) dX10_beginEval_158 (fun w_67 k_65 o_66 => ?_)
            have k_68 : w_67 1000 = (b, some (mdE B (va_up (va_up (va_up (evX x n ((sN : Nat) : Int) ((k : Nat) : Int) ((S.length : Nat) : Int) ((vsS S : Nat) : Int) li 0 dn vl) 66 1) 66 0) 65 1))) := k_65
            exact pw_vret C hr dX10_beginEval_161 ⟨rfl, fun m nk R hRR => ⟨1, S, k, 1, 0, vl, li, t, n, sN, fZ, g1, g2, g3, g4, g5, g6, fv, EvM.cell hM (by rw [k_68]; rfl) (fun k hk => (o_66 k (by omega)).trans ((o_9 k (by omega)).trans (o_2 k (by omega)))), Ext.rf, Or.inr (Or.inr ⟨1, X, nk, rfl, ⟨by decide, by decide⟩, by rw [← hRR, mRun_0c hcl, if_neg (by omega), if_pos (by omega)]⟩)⟩, fun k hk => (o_66 k (by omega)).trans ((o_9 k (by omega)).trans (o_2 k (by omega)))⟩
        · exfalso; omega
      · refine pw_aload_n (i := 0) C dX10_beginEval_121 rfl rfl (Or.inr ⟨_, rfl⟩) ?_
        refine pw_iconst C dX10_beginEval_122 ?_
        refine pw_put (j := 65) C cl_X10 fl_X10_374 (by decide) rfl rfl rfl rfl rfl k_11 (Nat.le_of_ble_eq_true rfl) dX10_beginEval_123 (fun w_71 k_69 o_70 => ?_)
        have k_72 : w_71 1000 = (b, some (mdE B (va_up (va_up (va_up (evX x n ((sN : Nat) : Int) ((k : Nat) : Int) ((S.length : Nat) : Int) ((vsS S : Nat) : Int) li 0 dn vl) 66 1) 66 0) 65 2))) := k_69
        exact pw_vret C hr dX10_beginEval_126 ⟨rfl, fun m nk R hRR => ⟨1, S, k, 2, 0, vl, li, t, n, sN, fZ, g1, g2, g3, g4, g5, g6, fv, EvM.cell hM (by rw [k_72]; rfl) (fun k hk => (o_70 k (by omega)).trans ((o_9 k (by omega)).trans (o_2 k (by omega)))), Ext.rf, Or.inr (Or.inr ⟨2, X, nk, rfl, ⟨by decide, by decide⟩, by rw [← hRR, mRun_0c hcl, if_pos (by omega)]⟩)⟩, fun k hk => (o_70 k (by omega)).trans ((o_9 k (by omega)).trans (o_2 k (by omega)))⟩
    · have hnp := h_7
      have hX3 := hln o X ho
      have hov := isCn_o (e := e0) h_6 hnp (by rw [hX3.2.2.1, hX3.2.2.2.1]; by_cases q : fL o = -1; exact Or.inl (decide_eq_true q); exact Or.inr (decide_eq_true (by have h1 := hX3.2.1; rw [hnp] at h1; have h2 := of_decide_eq_false h1.symm; have h3 := hX3.2.2.2.2.2.2; omega)))
      have hhas := wf_var hnp hov.2.1 hwf
      refine pw_iconst C dX10_beginEval_31 ?_
      refine pw_istore (lv' := [(0, .ref b), (1, .int (iZ o)), (2, .int (iZ d0)), (3, .int (iZ ba)), (4, .int (iZ 0)), (5, .int (iZ 0))]) C dX10_beginEval_32 (by decide) rfl ?_
      refine pw_iload_n (i := 2) C dX10_beginEval_34 rfl rfl ?_
      refine pw_iconst C dX10_beginEval_35 ?_
      refine pw_icmp_ne (tgt := 70) C (by omega) (by omega) dX10_beginEval_36 (by decide) (fun h_73 => ?_) (fun h_73 => ?_)
      · obtain ⟨i, D, us, bn, hd1, hTi, hee, hul, hba, hus, hbd⟩ := hs.resolve_left (fun q => by omega)
        have hz := zip_maps hul
        have hdj := DfM.get hDf hTi
        rw [Nat.zero_add] at hdj
        have hi40 : i < T.length := (List.getElem?_eq_some_iff.mp hTi).1
        have hu6 := (hTo D (List.mem_of_getElem? hTi)).2.2.1
        have hv6 := hFr.v6
        have hT1' : VlsI t n dv (6 * ((i : Nat) : Int)) (e0.map Prod.fst) := by rw [hee, hz.1]; exact hdj.2.2.1
        have hT2' : VlsI t n fv ((bn : Nat) : Int) (e0.map Prod.snd) := by rw [hee, hz.2]; exact hus
        have hel : e0.length = us.length := by have := congrArg List.length hz.2; rw [← hee, List.length_map] at this; exact this
        have loop : ∀ (kk j : Nat), j + kk = e0.length → eLk (e0.drop j) X = eLk e0 X → eHas (e0.drop j) X = true → pw_G g p l e { frames := 3, cells := 0, slots := 0, locals := 63 } s m args below meth c 6 (pw_Q g below (fun r w' => r = none ∧ (∀ (m nk : Nat) (R : Nat × Ob × Nat × Nat), mRun T fu (m + 1) 0 X e0 S k nk = R → EvT g w' b B x T be fu NB s0 t n (2 * m + 1) R) ∧ evF w w') args s { frames := 3, cells := 0, slots := 0, locals := 63 }) 0 0 70 [(0, .ref b), (1, .int (iZ o)), (2, .int (iZ d0)), (3, .int (iZ ba)), (4, .int (iZ 0)), (5, .int (iZ ((j : Nat) : Int)))] [] w_3 := by
          intro kk
          induction kk with
          | zero =>
            intro j hj hl hh
            exfalso; obtain ⟨q, _, _, q3⟩ := has_drop hh; omega
          | succ kk ih =>
            intro j hj hl hh
            obtain ⟨q, q1, q2, q3⟩ := has_drop hh
            have hk1 := VlsI.mapf hT1' q1
            have hv1 := VlsI.maps hT2' q1
            rw [q2, eLk] at hl
            rw [q2, eHas] at hh
            rw [show 6 * ((i : Nat) : Int) + ((j : Nat) : Int) = 6 * d0 + ((j : Nat) : Int) by rw [hd1]] at hk1
            rw [show ((bn : Nat) : Int) + ((j : Nat) : Int) = ba + ((j : Nat) : Int) by rw [hba]] at hv1
            have hk1r := Vl.rg hR hk1
            have hv1r := Vl.rg hR hv1
            refine pw_aload_n (i := 0) C dX10_beginEval_70 rfl rfl (Or.inr ⟨_, rfl⟩) ?_
            refine pw_get (j := 35) C cl_X10 fl_X10_80 (by decide) rfl k_4 rfl dX10_beginEval_71 ?_
            refine pw_stk (st' := [.ref (B 35)]) rfl ?_
            refine pw_bipush C dX10_beginEval_74 (by decide) ?_
            refine pw_iload_n (i := 2) C dX10_beginEval_76 rfl rfl ?_
            refine pw_imul C dX10_beginEval_77 ?_
            refine pw_iload C dX10_beginEval_78 rfl ?_
            refine pw_iadd C dX10_beginEval_80 ?_
            have c_374 := (o_2 1036 (by omega)).trans d3
            have g_375 := u3 ((6 * d0) + ((j : Nat) : Int))
            refine pw_iald C c_374 ⟨by omega, by omega, by omega⟩ dX10_beginEval_81 ?_
            refine pw_iload_n (i := 1) C dX10_beginEval_82 rfl rfl ?_
            refine pw_icmp_eq (tgt := 92) C (by omega) (by omega) dX10_beginEval_83 (by decide) (fun h_376 => ?_) (fun h_376 => ?_)
            · have hye : q.1 = X := (RS.inj hR hk1 ho).mp (by omega)
              rw [if_pos hye] at hl
              refine pw_aload_n (i := 0) C dX10_beginEval_92 rfl rfl (Or.inr ⟨_, rfl⟩) ?_
              refine pw_aload_n (i := 0) C dX10_beginEval_93 rfl rfl (Or.inr ⟨_, rfl⟩) ?_
              refine pw_get (j := 62) C cl_X10 fl_X10_135 (by decide) rfl k_4 rfl dX10_beginEval_94 ?_
              refine pw_stk (st' := [.ref (B 62), .ref b]) rfl ?_
              refine pw_iload_n (i := 3) C dX10_beginEval_97 rfl rfl ?_
              refine pw_iload C dX10_beginEval_98 rfl ?_
              refine pw_iadd C dX10_beginEval_100 ?_
              have c_377 := (o_2 1063 (by omega)).trans b7
              have g_378 := r7 (ba + ((j : Nat) : Int))
              refine pw_iald C c_377 ⟨by omega, by omega, by omega⟩ dX10_beginEval_101 ?_
              refine pw_put (j := 67) C cl_X10 fl_X10_368 (by decide) rfl rfl rfl rfl rfl k_4 (Nat.le_of_ble_eq_true rfl) dX10_beginEval_102 (fun w_381 k_379 o_380 => ?_)
              have k_382 : w_381 1000 = (b, some (mdE B (va_up (va_up (evX x n ((sN : Nat) : Int) ((k : Nat) : Int) ((S.length : Nat) : Int) ((vsS S : Nat) : Int) li 0 dn vl) 66 1) 67 (fv (ba + ((j : Nat) : Int)))))) := k_379
              exact pw_vret C hr dX10_beginEval_105 ⟨rfl, fun m nk R hRR => ⟨1, S, k, 0, 1, (fv (ba + ((j : Nat) : Int))), li, t, n, sN, fZ, g1, g2, g3, g4, g5, g6, fv, EvM.cell hM (by rw [k_382]; rfl) (fun k hk => (o_380 k (by omega)).trans (o_2 k (by omega))), Ext.rf, Or.inl ⟨rfl, rfl, rfl, hok, bgV e0 X, m, nk, by omega, (by rw [hov.2.2, ← hl]; exact hv1), by rw [← hRR, mRun_0v hov.1]⟩⟩, fun k hk => (o_380 k (by omega)).trans (o_2 k (by omega))⟩
            · refine pw_iinc (lv' := [(0, .ref b), (1, .int (iZ o)), (2, .int (iZ d0)), (3, .int (iZ ba)), (4, .int (iZ 0)), (5, .int (iZ (((j : Nat) : Int) + 1)))]) C dX10_beginEval_86 rfl (by decide) rfl ?_
              refine pw_goto (tgt := 70) C dX10_beginEval_89 (by decide) ?_
              rw [show ((j : Nat) : Int) + 1 = ((j + 1 : Nat) : Int) by omega]
              have hne1 : ¬ q.1 = X := fun e => absurd ((RS.inj hR hk1 ho).mpr e) (by omega)
              rw [if_neg hne1] at hl hh
              exact ih (j + 1) (by omega) hl hh
        exact loop e0.length 0 (by omega) rfl hhas
      · have hee : e0 = be := (hs.resolve_right (fun ⟨i, _, _, _, q, _⟩ => by omega)).2
        have hT1' : VlsI t n f1 0 (e0.map Prod.fst) := by rw [hee]; exact hT1
        have hT2' : VlsI t n f2 0 (e0.map Prod.snd) := by rw [hee]; exact hT2
        have hbe' : e0.length ≤ 1000 := by rw [hee]; exact hbe
        have loop : ∀ (kk j : Nat), j + kk = e0.length → eLk (e0.drop j) X = eLk e0 X → eHas (e0.drop j) X = true → pw_G g p l e { frames := 3, cells := 0, slots := 0, locals := 63 } s m args below meth c 6 (pw_Q g below (fun r w' => r = none ∧ (∀ (m nk : Nat) (R : Nat × Ob × Nat × Nat), mRun T fu (m + 1) 0 X e0 S k nk = R → EvT g w' b B x T be fu NB s0 t n (2 * m + 1) R) ∧ evF w w') args s { frames := 3, cells := 0, slots := 0, locals := 63 }) 0 0 39 [(0, .ref b), (1, .int (iZ o)), (2, .int (iZ d0)), (3, .int (iZ ba)), (4, .int (iZ 0)), (5, .int (iZ ((j : Nat) : Int)))] [] w_3 := by
          intro kk
          induction kk with
          | zero =>
            intro j hj hl hh
            exfalso; obtain ⟨q, _, _, q3⟩ := has_drop hh; omega
          | succ kk ih =>
            intro j hj hl hh
            obtain ⟨q, q1, q2, q3⟩ := has_drop hh
            have hk1 := VlsI.mapf hT1' q1
            have hv1 := VlsI.maps hT2' q1
            rw [q2, eLk] at hl
            rw [q2, eHas] at hh
            rw [Int.zero_add] at hk1 hv1
            have hk1r := Vl.rg hR hk1
            have hv1r := Vl.rg hR hv1
            refine pw_aload_n (i := 0) C dX10_beginEval_39 rfl rfl (Or.inr ⟨_, rfl⟩) ?_
            refine pw_get (j := 52) C cl_X10 fl_X10_110 (by decide) rfl k_4 rfl dX10_beginEval_40 ?_
            refine pw_stk (st' := [.ref (B 52)]) rfl ?_
            refine pw_iload C dX10_beginEval_43 rfl ?_
            have c_683 := (o_2 1053 (by omega)).trans t1
            have g_684 := t3 ((j : Nat) : Int)
            refine pw_iald C c_683 ⟨by omega, by omega, by omega⟩ dX10_beginEval_45 ?_
            refine pw_iload_n (i := 1) C dX10_beginEval_46 rfl rfl ?_
            refine pw_icmp_eq (tgt := 56) C (by omega) (by omega) dX10_beginEval_47 (by decide) (fun h_685 => ?_) (fun h_685 => ?_)
            · have hye : q.1 = X := (RS.inj hR hk1 ho).mp (by omega)
              rw [if_pos hye] at hl
              refine pw_aload_n (i := 0) C dX10_beginEval_56 rfl rfl (Or.inr ⟨_, rfl⟩) ?_
              refine pw_aload_n (i := 0) C dX10_beginEval_57 rfl rfl (Or.inr ⟨_, rfl⟩) ?_
              refine pw_get (j := 53) C cl_X10 fl_X10_113 (by decide) rfl k_4 rfl dX10_beginEval_58 ?_
              refine pw_stk (st' := [.ref (B 53), .ref b]) rfl ?_
              refine pw_iload C dX10_beginEval_61 rfl ?_
              have c_686 := (o_2 1054 (by omega)).trans t2
              have g_687 := t4 ((j : Nat) : Int)
              refine pw_iald C c_686 ⟨by omega, by omega, by omega⟩ dX10_beginEval_63 ?_
              refine pw_put (j := 67) C cl_X10 fl_X10_368 (by decide) rfl rfl rfl rfl rfl k_4 (Nat.le_of_ble_eq_true rfl) dX10_beginEval_64 (fun w_690 k_688 o_689 => ?_)
              have k_691 : w_690 1000 = (b, some (mdE B (va_up (va_up (evX x n ((sN : Nat) : Int) ((k : Nat) : Int) ((S.length : Nat) : Int) ((vsS S : Nat) : Int) li 0 dn vl) 66 1) 67 (f2 ((j : Nat) : Int))))) := k_688
              refine pw_goto (tgt := 105) C dX10_beginEval_67 (by decide) ?_
              exact pw_vret C hr dX10_beginEval_105 ⟨rfl, fun m nk R hRR => ⟨1, S, k, 0, 1, (f2 ((j : Nat) : Int)), li, t, n, sN, fZ, g1, g2, g3, g4, g5, g6, fv, EvM.cell hM (by rw [k_691]; rfl) (fun k hk => (o_689 k (by omega)).trans (o_2 k (by omega))), Ext.rf, Or.inl ⟨rfl, rfl, rfl, hok, bgV e0 X, m, nk, by omega, (by rw [hov.2.2, ← hl]; exact hv1), by rw [← hRR, mRun_0v hov.1]⟩⟩, fun k hk => (o_689 k (by omega)).trans (o_2 k (by omega))⟩
            · refine pw_iinc (lv' := [(0, .ref b), (1, .int (iZ o)), (2, .int (iZ d0)), (3, .int (iZ ba)), (4, .int (iZ 0)), (5, .int (iZ (((j : Nat) : Int) + 1)))]) C dX10_beginEval_50 rfl (by decide) rfl ?_
              refine pw_goto (tgt := 39) C dX10_beginEval_53 (by decide) ?_
              rw [show ((j : Nat) : Int) + 1 = ((j + 1 : Nat) : Int) by omega]
              have hne1 : ¬ q.1 = X := fun e => absurd ((RS.inj hR hk1 ho).mpr e) (by omega)
              rw [if_neg hne1] at hl hh
              exact ih (j + 1) (by omega) hl hh
        exact loop e0.length 0 (by omega) rfl hhas
  · refine pw_aload_n (i := 0) C dX10_beginEval_13 rfl rfl (Or.inr ⟨_, rfl⟩) ?_
    refine pw_aload_n (i := 0) C dX10_beginEval_14 rfl rfl (Or.inr ⟨_, rfl⟩) ?_
    refine pw_iload_n (i := 1) C dX10_beginEval_15 rfl rfl ?_
    have hcn := isCn_v (e := e0) h_6
    refine pw_callV (As := [.int (iZ o)]) (st := [.ref b]) C (m_X10_valueOf g l k_4 R_5 rfl rfl hK ho hcn.2.2) my_X10_valueOf ml_X10_365 (pw_rec.of C k_4 cl_X10.1) rfl ⟨Nat.le_of_ble_eq_true rfl, Nat.le_of_ble_eq_true rfl⟩ ⟨by (try dsimp only); omega, by (try dsimp only); omega⟩ rfl (Nat.le_of_ble_eq_true rfl) dX10_beginEval_16 ?_
    rintro _ _ ⟨rfl, z_692, rfl, z_692v⟩
    have z_692r := Vl.rg R_5 z_692v
    refine pw_stk (st' := [.int (iZ z_692), .ref b]) rfl ?_
    refine pw_put (j := 67) C cl_X10 fl_X10_368 (by decide) rfl rfl rfl rfl rfl k_4 (Nat.le_of_ble_eq_true rfl) dX10_beginEval_19 (fun w_695 k_693 o_694 => ?_)
    have k_696 : w_695 1000 = (b, some (mdE B (va_up (va_up (evX x n ((sN : Nat) : Int) ((k : Nat) : Int) ((S.length : Nat) : Int) ((vsS S : Nat) : Int) li 0 dn vl) 66 1) 67 z_692))) := k_693
    exact pw_vret C hr dX10_beginEval_22 ⟨rfl, fun m nk R hRR => ⟨1, S, k, 0, 1, z_692, li, t, n, sN, fZ, g1, g2, g3, g4, g5, g6, fv, EvM.cell hM (by rw [k_696]; rfl) (fun k hk => (o_694 k (by omega)).trans (o_2 k (by omega))), Ext.rf, Or.inl ⟨rfl, rfl, rfl, hok, bgV e0 X, m, nk, by omega, (by rw [hcn.2.1]; exact z_692v), by rw [← hRR, mRun_0v hcn.1]⟩⟩, fun k hk => (o_694 k (by omega)).trans (o_2 k (by omega))⟩

