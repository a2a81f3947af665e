theorem OwnI.ext {t t' : Int → Ob} {n n' ow ot : Int} {T T1 : List Dn} (h : OwnI t n ow ot T T1) (he : Ext t n t' n') : OwnI t' n' ow ot T T1 := by
  rcases h with q | ⟨N, P, h1, h2⟩
  · exact Or.inl q
  · exact Or.inr ⟨N, P, h1.ext he, h2⟩
/-- a term has been built, or there is none -/
def rTm (g : pw_P) (w w' : pw_W) (b : Nat) (B : Nat → Nat) (x : Nat → Int) (t : Int → Ob) (n : Int) (sN : Nat) (T1 : List Dn) (X : Ob) (r : Option Value) : Prop :=
  ∃ (z : Int) (t' : Int → Ob) (n' : Int) (s' : Nat) (fZ' h1 h2 h3 fk' : Int → Int), r = some (.int (iZ z)) ∧ w' 1000 = (b, some (mdE B (va_up (va_up x 7 n') 10 ((s' : Nat) : Int)))) ∧ RS g w' B t' n' s' fZ' ∧ Ext t n t' n' ∧ n' ≤ n + 3 * (((nd2 X).1 : Nat) : Int) + 3 ∧ s' ≤ sN ∧ (if isTm T1 va1 X then Vl t' n' z (pl2 X).1 else z = -1) ∧ BtA g w' B h1 h2 h3 fk' ∧ bFr w w'
/-- how a term stands -/
def tmO (T1 : List Dn) (X : Ob) (gd : Bool) (S : List TF) (bl : List Ob) : Prop :=
  if gd then (match S with | [] => bl = [(pl2 X).1] ∧ (wf2 T1 va1 X).1 = true | f :: S1 => bl = btL (f :: S1) ∧ tmX (f :: S1) = (pl2 X).1 ∧ gdS T1 (f :: S1) = (wf2 T1 va1 X).1) else (wf2 T1 va1 X).1 = false
theorem cellX {b : Nat} {B : Nat → Nat} {x : Nat → Int} {n s c v : Int} (h45 : x 45 = 0) (h47 : x 47 = 0) : (b, some (mdE B (va_up (va_up (btX x n s c v) 45 0) 47 0))) = (b, some (mdE B (va_up (va_up x 7 n) 10 s))) := by
  have e : mdE B (va_up (va_up (btX x n s c v) 45 0) 47 0) = mdE B (va_up (va_up (va_up (va_up x 7 n) 10 s) 45 (x 45)) 47 (x 47)) := by rw [h45, h47]; rfl
  rw [e]
  rfl
theorem wf2_cons {T : List Dn} {vs : Ob → Bool} {R : Ob} (hp : obP R = true) : (wf2 T vs R).2 = ((wf2 T vs (obCar R)).1 && (wf2 T vs (obCdr R)).2) := by
  cases R <;> first | rfl | cases hp
theorem cellE {b : Nat} {B : Nat → Nat} {x : Nat → Int} {n1 s1 a c p p' n5 s5 q r r' : Int} (hp : p = p') (hr : r = r') : (b, some (mdE B (va_up (va_up (va_up (va_up (va_up (btX x n1 s1 a c) 45 p) 7 n5) 10 s5) 47 q) 47 r))) = (b, some (mdE B (btX x n5 s5 p' r'))) := by subst hp; subst hr; rfl
theorem cellC {b : Nat} {B : Nat → Nat} {X : Nat → Int} (c c' : Int) (h : c = c') : (b, some (mdE B (va_up X 45 c))) = (b, some (mdE B (va_up X 45 c'))) := by rw [h]
set_option maxRecDepth 100000 in
set_option maxHeartbeats 4000000 in
/-- termOf -/
theorem m_X10_termOf (g : pw_P) (l : Launch) {w : pw_W} {b : Nat} {B : Nat → Nat} {x : Nat → Int} (h0 : w 1000 = (b, some (mdE B x))) {t : Int → Ob} {n : Int} {sN : Nat} {fZ : Int → Int} (hR : RS g w B t n sN fZ) (h7 : x 7 = n) (h10 : x 10 = ((sN : Nat) : Int)) (hK : RK t n) {T : List Dn} (hD : MdD g w B t n T) (h32 : x 32 = ((T.length : Nat) : Int)) {o : Int} {X : Ob} (ho : Vl t n o X) {T1 : List Dn} {cm cn : Int} {g1 g2 g3 fk : Int → Int} (hT : TNs T) (hDl : ∀ d ∈ T, 0 ≤ obLen d.2.1) (hOw : OwnI t n cm cn T T1) (hT1n : TNs T1) (hT1r : ∀ d ∈ T1, obLen d.2.1 ≤ 6) (hcn : 0 ≤ cn) (h37 : x 37 = cm) (hcm : -1 ≤ cm ∧ cm < 40000) (h38 : x 38 = cn) (h45 : x 45 = 0) (h47 : x 47 = 0) (hB : BtA g w B g1 g2 g3 fk) (hnd : (nd2 X).1 ≤ 1000) (hcap : n + 3 * (((nd2 X).1 : Nat) : Int) + 8 ≤ 40000) : pw_M g l yX10_termOf cX10_termOf 7 (some .int) { frames := 6, cells := 0, slots := 0, locals := 133 } [.ref b, .int (iZ o)] w (fun r w' => rTm g w w' b B x t n sN T1 X r) := by
  refine pw_M.of (by decide) (Nat.le_of_ble_eq_true rfl) rfl ?_
  intro p e s m args below meth c C hr hn
  obtain ⟨fLq, fRq, fHq, fVq, lq0, lq1, lq4, lq5, -, hlnq⟩ := RS.lens hR
  have hRn := hR.n
  have hor := Vl.rg hR ho
  have loop : ∀ (kk : Nat) (w1 : pw_W) (t1 : Int → Ob) (n1 : Int) (s1 : Nat) (Z1 g1 g2 g3 fk : Int → Int) (gd : Bool) (S : List TF) (bl : List Ob), 2 * ndS S + S.length ≤ kk → RS g w1 B t1 n1 s1 Z1 → RK t1 n1 → Ext t n t1 n1 → w1 1000 = (b, some (mdE B (btX x n1 ((s1 : Nat) : Int) ((S.length : Nat) : Int) ((bl.length : Nat) : Int)))) → BtA g w1 B g1 g2 g3 fk → FrT t1 n1 g1 g2 g3 S → BtI t1 n1 Z1 fk 0 bl → tmO T1 X gd S bl → ndS S + bl.length + S.length ≤ (nd2 X).1 → n1 + ((bl.length : Nat) : Int) + 2 * ((S.length : Nat) : Int) + 3 * ((ndS S : Nat) : Int) ≤ n + 3 * (((nd2 X).1 : Nat) : Int) + 3 → s1 ≤ sN → (∀ k, (k < 1000 ∨ k = 1008 ∨ (1010 < k ∧ k < 1043) ∨ k = 1046 ∨ 1047 < k) → w1 k = w k) → pw_G g p l e { frames := 6, cells := 0, slots := 0, locals := 133 } s m args below meth c 7 (pw_Q g below (fun r w' => rTm g w w' b B x t n sN T1 X r) args s { frames := 6, cells := 0, slots := 0, locals := 133 }) 0 0 17 [(0, .ref b), (1, .int (iZ o)), (2, .int (iZ 0)), (3, .int (iZ 0)), (4, .int (iZ (b2i gd)))] [] w1 := by
    intro kk
    induction kk with
    | zero =>
      intro w1 t1 n1 s1 Z1 g1 g2 g3 fk gd S bl hkk hR1 hK1 hext y0 hBA hFr hBt hO hQ hN3 hss hf1
      obtain ⟨p1, p2, p3, p4, p5, p6, p7, p8⟩ := id hBA
      obtain ⟨fL, fR, fH, fV, l0, l1, l4, l5, ⟨m0, m1, m4, m5⟩, hln⟩ := RS.lens hR1
      have hn1 := hR1.n
      have hext1 := hext.1
      cases gd with
      | false =>
        refine pw_aload_n (i := 0) C dX10_termOf_17 rfl rfl (Or.inr ⟨_, rfl⟩) ?_
        refine pw_get (j := 45) C cl_X10 fl_X10_313 (by decide) rfl y0 rfl dX10_termOf_18 ?_
        refine pw_stk (st' := [.int (iZ ((S.length : Nat) : Int))]) rfl ?_
        refine pw_iload_n (i := 2) C dX10_termOf_21 rfl rfl ?_
        refine pw_icmp_le (tgt := 147) C (by omega) (by omega) dX10_termOf_22 (by decide) (fun h_11 => ?_) (fun h_11 => ?_)
        · refine pw_aload_n (i := 0) C dX10_termOf_147 rfl rfl (Or.inr ⟨_, rfl⟩) ?_
          refine pw_iload_n (i := 2) C dX10_termOf_148 rfl rfl ?_
          refine pw_put (j := 45) C cl_X10 fl_X10_313 (by decide) rfl rfl rfl rfl rfl y0 (Nat.le_of_ble_eq_true rfl) dX10_termOf_149 (fun w_14 k_12 o_13 => ?_)
          have k_15 : w_14 1000 = (b, some (mdE B (va_up (btX x n1 ((s1 : Nat) : Int) ((S.length : Nat) : Int) ((bl.length : Nat) : Int)) 45 0))) := k_12
          refine pw_aload_n (i := 0) C dX10_termOf_152 rfl rfl (Or.inr ⟨_, rfl⟩) ?_
          refine pw_iload_n (i := 3) C dX10_termOf_153 rfl rfl ?_
          refine pw_put (j := 47) C cl_X10 fl_X10_307 (by decide) rfl rfl rfl rfl rfl k_15 (Nat.le_of_ble_eq_true rfl) dX10_termOf_154 (fun w_18 k_16 o_17 => ?_)
          have k_19 : w_18 1000 = (b, some (mdE B (va_up (va_up (btX x n1 ((s1 : Nat) : Int) ((S.length : Nat) : Int) ((bl.length : Nat) : Int)) 45 0) 47 0))) := k_16
          refine pw_iload C dX10_termOf_157 rfl ?_
          refine pw_if_eqB (tgt := 186) C dX10_termOf_159 (by decide) (fun h_20 => ?_) (fun h_20 => ?_)
          · refine pw_iconst C dX10_termOf_186 ?_
            have R_21 := hR1.same (w' := w_18) (fun k hk => (o_17 k (by omega)).trans (o_13 k (by omega)))
            exact pw_iret C hr dX10_termOf_187 ⟨(-1), t1, n1, s1, Z1, g1, g2, g3, fk, rfl, by rw [k_19]; exact cellX h45 h47, R_21, hext, by omega, hss, by rw [show isTm T1 va1 X = false from by unfold isTm; rw [show (wf2 T1 va1 X).1 = false from hO]; rfl]; rw [if_neg (by decide)], BtA.same hBA (fun k hk => (o_17 k (by omega)).trans (o_13 k (by omega))), fun k hk => ((o_17 k (by omega)).trans (o_13 k (by omega))).trans (hf1 k hk)⟩
          · cases h_20
        · refine pw_iload C dX10_termOf_25 rfl ?_
          refine pw_if_eqB (tgt := 147) C dX10_termOf_27 (by decide) (fun h_22 => ?_) (fun h_22 => ?_)
          · refine pw_aload_n (i := 0) C dX10_termOf_147 rfl rfl (Or.inr ⟨_, rfl⟩) ?_
            refine pw_iload_n (i := 2) C dX10_termOf_148 rfl rfl ?_
            refine pw_put (j := 45) C cl_X10 fl_X10_313 (by decide) rfl rfl rfl rfl rfl y0 (Nat.le_of_ble_eq_true rfl) dX10_termOf_149 (fun w_25 k_23 o_24 => ?_)
            have k_26 : w_25 1000 = (b, some (mdE B (va_up (btX x n1 ((s1 : Nat) : Int) ((S.length : Nat) : Int) ((bl.length : Nat) : Int)) 45 0))) := k_23
            refine pw_aload_n (i := 0) C dX10_termOf_152 rfl rfl (Or.inr ⟨_, rfl⟩) ?_
            refine pw_iload_n (i := 3) C dX10_termOf_153 rfl rfl ?_
            refine pw_put (j := 47) C cl_X10 fl_X10_307 (by decide) rfl rfl rfl rfl rfl k_26 (Nat.le_of_ble_eq_true rfl) dX10_termOf_154 (fun w_29 k_27 o_28 => ?_)
            have k_30 : w_29 1000 = (b, some (mdE B (va_up (va_up (btX x n1 ((s1 : Nat) : Int) ((S.length : Nat) : Int) ((bl.length : Nat) : Int)) 45 0) 47 0))) := k_27
            refine pw_iload C dX10_termOf_157 rfl ?_
            refine pw_if_eqB (tgt := 186) C dX10_termOf_159 (by decide) (fun h_31 => ?_) (fun h_31 => ?_)
            · refine pw_iconst C dX10_termOf_186 ?_
              have R_32 := hR1.same (w' := w_29) (fun k hk => (o_28 k (by omega)).trans (o_24 k (by omega)))
              exact pw_iret C hr dX10_termOf_187 ⟨(-1), t1, n1, s1, Z1, g1, g2, g3, fk, rfl, by rw [k_30]; exact cellX h45 h47, R_32, hext, by omega, hss, by rw [show isTm T1 va1 X = false from by unfold isTm; rw [show (wf2 T1 va1 X).1 = false from hO]; rfl]; rw [if_neg (by decide)], BtA.same hBA (fun k hk => (o_28 k (by omega)).trans (o_24 k (by omega))), fun k hk => ((o_28 k (by omega)).trans (o_24 k (by omega))).trans (hf1 k hk)⟩
            · cases h_31
          · cases h_22
      | true =>
        cases S with
        | nil =>
          have hO : bl = [(pl2 X).1] ∧ (wf2 T1 va1 X).1 = true := hO
          obtain ⟨hbl, -⟩ := id hO
          subst hbl
          have y0 : w1 1000 = (b, some (mdE B (btX x n1 ((s1 : Nat) : Int) 0 1))) := y0
          refine pw_aload_n (i := 0) C dX10_termOf_17 rfl rfl (Or.inr ⟨_, rfl⟩) ?_
          refine pw_get (j := 45) C cl_X10 fl_X10_313 (by decide) rfl y0 rfl dX10_termOf_18 ?_
          refine pw_stk (st' := [.int (iZ 0)]) rfl ?_
          refine pw_iload_n (i := 2) C dX10_termOf_21 rfl rfl ?_
          refine pw_icmp_le (tgt := 147) C (by omega) (by omega) dX10_termOf_22 (by decide) (fun h_101 => ?_) (fun h_101 => ?_)
          · refine pw_aload_n (i := 0) C dX10_termOf_147 rfl rfl (Or.inr ⟨_, rfl⟩) ?_
            refine pw_iload_n (i := 2) C dX10_termOf_148 rfl rfl ?_
            refine pw_put (j := 45) C cl_X10 fl_X10_313 (by decide) rfl rfl rfl rfl rfl y0 (Nat.le_of_ble_eq_true rfl) dX10_termOf_149 (fun w_104 k_102 o_103 => ?_)
            have k_105 : w_104 1000 = (b, some (mdE B (va_up (btX x n1 ((s1 : Nat) : Int) 0 1) 45 0))) := k_102
            refine pw_aload_n (i := 0) C dX10_termOf_152 rfl rfl (Or.inr ⟨_, rfl⟩) ?_
            refine pw_iload_n (i := 3) C dX10_termOf_153 rfl rfl ?_
            refine pw_put (j := 47) C cl_X10 fl_X10_307 (by decide) rfl rfl rfl rfl rfl k_105 (Nat.le_of_ble_eq_true rfl) dX10_termOf_154 (fun w_108 k_106 o_107 => ?_)
            have k_109 : w_108 1000 = (b, some (mdE B (va_up (va_up (btX x n1 ((s1 : Nat) : Int) 0 1) 45 0) 47 0))) := k_106
            refine pw_iload C dX10_termOf_157 rfl ?_
            refine pw_if_eqB (tgt := 186) C dX10_termOf_159 (by decide) (fun h_110 => ?_) (fun h_110 => ?_)
            · cases h_110
            · refine pw_aload_n (i := 0) C dX10_termOf_162 rfl rfl (Or.inr ⟨_, rfl⟩) ?_
              refine pw_aload_n (i := 0) C dX10_termOf_163 rfl rfl (Or.inr ⟨_, rfl⟩) ?_
              refine pw_get (j := 46) C cl_X10 fl_X10_101 (by decide) rfl k_109 rfl dX10_termOf_164 ?_
              refine pw_stk (st' := [.ref (B 46), .ref b]) rfl ?_
              refine pw_iload_n (i := 3) C dX10_termOf_167 rfl rfl ?_
              have c_111 := ((o_107 1047 (by omega)).trans (o_103 1047 (by omega))).trans p4
              refine pw_iald C c_111 ⟨by decide, by decide, by decide⟩ dX10_termOf_168 ?_
              have R_112 := hR1.same (w' := w_108) (fun k hk => (o_107 k (by omega)).trans (o_103 k (by omega)))
              refine pw_callV (As := [.int (iZ (fk 0))]) (st := []) C (m_X10_sizeOf g l k_109 R_112 rfl rfl hK1 hBt.1 hBt.2.1) my_X10_sizeOf ml_X10_310 (pw_rec.of C k_109 cl_X10.1) rfl ⟨Nat.le_of_ble_eq_true rfl, Nat.le_of_ble_eq_true rfl⟩ ⟨by (try dsimp only); omega, by (try dsimp only); omega⟩ rfl (Nat.le_of_ble_eq_true rfl) dX10_termOf_169 ?_
              rintro _ _ ⟨rfl, rfl⟩
              have hszm := szm_1 (pl2 X).1
              refine pw_stk (st' := [.int (iZ ((szm (pl2 X).1 : Nat) : Int))]) rfl ?_
              refine pw_bipush C dX10_termOf_172 (by decide) ?_
              refine pw_icmp_gt (tgt := 186) C (by omega) (by omega) dX10_termOf_174 (by decide) (fun h_113 => ?_) (fun h_113 => ?_)
              · refine pw_iconst C dX10_termOf_186 ?_
                exact pw_iret C hr dX10_termOf_187 ⟨(-1), t1, n1, s1, Z1, g1, g2, g3, fk, rfl, by rw [k_109]; exact cellX h45 h47, R_112, hext, by omega, hss, by rw [show isTm T1 va1 X = false from by unfold isTm; rw [hO.2, decide_eq_false (fun q => by rw [← (pl2_sz T1 X).1 hO.2, ← szm_120 hBt.2.2.1] at q; omega)]; rfl]; rw [if_neg (by decide)], BtA.same hBA (fun k hk => (o_107 k (by omega)).trans (o_103 k (by omega))), fun k hk => ((o_107 k (by omega)).trans (o_103 k (by omega))).trans (hf1 k hk)⟩
              · refine pw_aload_n (i := 0) C dX10_termOf_177 rfl rfl (Or.inr ⟨_, rfl⟩) ?_
                refine pw_get (j := 46) C cl_X10 fl_X10_101 (by decide) rfl k_109 rfl dX10_termOf_178 ?_
                refine pw_stk (st' := [.ref (B 46)]) rfl ?_
                refine pw_iload_n (i := 3) C dX10_termOf_181 rfl rfl ?_
                refine pw_iald C c_111 ⟨by decide, by decide, by decide⟩ dX10_termOf_182 ?_
                refine pw_goto (tgt := 187) C dX10_termOf_183 (by decide) ?_
                exact pw_iret C hr dX10_termOf_187 ⟨(fk 0), t1, n1, s1, Z1, g1, g2, g3, fk, rfl, by rw [k_109]; exact cellX h45 h47, R_112, hext, by omega, hss, by rw [show isTm T1 va1 X = true from by unfold isTm; rw [hO.2, decide_eq_true (by rw [← (pl2_sz T1 X).1 hO.2, ← szm_120 hBt.2.2.1]; omega)]; rfl]; rw [if_pos rfl]; exact hBt.1, BtA.same hBA (fun k hk => (o_107 k (by omega)).trans (o_103 k (by omega))), fun k hk => ((o_107 k (by omega)).trans (o_103 k (by omega))).trans (hf1 k hk)⟩
          · exfalso; omega
        | cons f S1 =>
          obtain ⟨N, R, L⟩ := f
          exfalso; simp only [List.length_cons] at hkk; omega
    | succ kk ih =>
      intro w1 t1 n1 s1 Z1 g1 g2 g3 fk gd S bl hkk hR1 hK1 hext y0 hBA hFr hBt hO hQ hN3 hss hf1
      obtain ⟨p1, p2, p3, p4, p5, p6, p7, p8⟩ := id hBA
      obtain ⟨fL, fR, fH, fV, l0, l1, l4, l5, ⟨m0, m1, m4, m5⟩, hln⟩ := RS.lens hR1
      have hn1 := hR1.n
      have hext1 := hext.1
      cases gd with
      | false =>
        refine pw_aload_n (i := 0) C dX10_termOf_17 rfl rfl (Or.inr ⟨_, rfl⟩) ?_
        refine pw_get (j := 45) C cl_X10 fl_X10_313 (by decide) rfl y0 rfl dX10_termOf_18 ?_
        refine pw_stk (st' := [.int (iZ ((S.length : Nat) : Int))]) rfl ?_
        refine pw_iload_n (i := 2) C dX10_termOf_21 rfl rfl ?_
        refine pw_icmp_le (tgt := 147) C (by omega) (by omega) dX10_termOf_22 (by decide) (fun h_11 => ?_) (fun h_11 => ?_)
        · refine pw_aload_n (i := 0) C dX10_termOf_147 rfl rfl (Or.inr ⟨_, rfl⟩) ?_
          refine pw_iload_n (i := 2) C dX10_termOf_148 rfl rfl ?_
          refine pw_put (j := 45) C cl_X10 fl_X10_313 (by decide) rfl rfl rfl rfl rfl y0 (Nat.le_of_ble_eq_true rfl) dX10_termOf_149 (fun w_14 k_12 o_13 => ?_)
          have k_15 : w_14 1000 = (b, some (mdE B (va_up (btX x n1 ((s1 : Nat) : Int) ((S.length : Nat) : Int) ((bl.length : Nat) : Int)) 45 0))) := k_12
          refine pw_aload_n (i := 0) C dX10_termOf_152 rfl rfl (Or.inr ⟨_, rfl⟩) ?_
          refine pw_iload_n (i := 3) C dX10_termOf_153 rfl rfl ?_
          refine pw_put (j := 47) C cl_X10 fl_X10_307 (by decide) rfl rfl rfl rfl rfl k_15 (Nat.le_of_ble_eq_true rfl) dX10_termOf_154 (fun w_18 k_16 o_17 => ?_)
          have k_19 : w_18 1000 = (b, some (mdE B (va_up (va_up (btX x n1 ((s1 : Nat) : Int) ((S.length : Nat) : Int) ((bl.length : Nat) : Int)) 45 0) 47 0))) := k_16
          refine pw_iload C dX10_termOf_157 rfl ?_
          refine pw_if_eqB (tgt := 186) C dX10_termOf_159 (by decide) (fun h_20 => ?_) (fun h_20 => ?_)
          · refine pw_iconst C dX10_termOf_186 ?_
            have R_21 := hR1.same (w' := w_18) (fun k hk => (o_17 k (by omega)).trans (o_13 k (by omega)))
            exact pw_iret C hr dX10_termOf_187 ⟨(-1), t1, n1, s1, Z1, g1, g2, g3, fk, rfl, by rw [k_19]; exact cellX h45 h47, R_21, hext, by omega, hss, by rw [show isTm T1 va1 X = false from by unfold isTm; rw [show (wf2 T1 va1 X).1 = false from hO]; rfl]; rw [if_neg (by decide)], BtA.same hBA (fun k hk => (o_17 k (by omega)).trans (o_13 k (by omega))), fun k hk => ((o_17 k (by omega)).trans (o_13 k (by omega))).trans (hf1 k hk)⟩
          · cases h_20
        · refine pw_iload C dX10_termOf_25 rfl ?_
          refine pw_if_eqB (tgt := 147) C dX10_termOf_27 (by decide) (fun h_22 => ?_) (fun h_22 => ?_)
          · refine pw_aload_n (i := 0) C dX10_termOf_147 rfl rfl (Or.inr ⟨_, rfl⟩) ?_
            refine pw_iload_n (i := 2) C dX10_termOf_148 rfl rfl ?_
            refine pw_put (j := 45) C cl_X10 fl_X10_313 (by decide) rfl rfl rfl rfl rfl y0 (Nat.le_of_ble_eq_true rfl) dX10_termOf_149 (fun w_25 k_23 o_24 => ?_)
            have k_26 : w_25 1000 = (b, some (mdE B (va_up (btX x n1 ((s1 : Nat) : Int) ((S.length : Nat) : Int) ((bl.length : Nat) : Int)) 45 0))) := k_23
            refine pw_aload_n (i := 0) C dX10_termOf_152 rfl rfl (Or.inr ⟨_, rfl⟩) ?_
            refine pw_iload_n (i := 3) C dX10_termOf_153 rfl rfl ?_
            refine pw_put (j := 47) C cl_X10 fl_X10_307 (by decide) rfl rfl rfl rfl rfl k_26 (Nat.le_of_ble_eq_true rfl) dX10_termOf_154 (fun w_29 k_27 o_28 => ?_)
            have k_30 : w_29 1000 = (b, some (mdE B (va_up (va_up (btX x n1 ((s1 : Nat) : Int) ((S.length : Nat) : Int) ((bl.length : Nat) : Int)) 45 0) 47 0))) := k_27
            refine pw_iload C dX10_termOf_157 rfl ?_
            refine pw_if_eqB (tgt := 186) C dX10_termOf_159 (by decide) (fun h_31 => ?_) (fun h_31 => ?_)
            · refine pw_iconst C dX10_termOf_186 ?_
              have R_32 := hR1.same (w' := w_29) (fun k hk => (o_28 k (by omega)).trans (o_24 k (by omega)))
              exact pw_iret C hr dX10_termOf_187 ⟨(-1), t1, n1, s1, Z1, g1, g2, g3, fk, rfl, by rw [k_30]; exact cellX h45 h47, R_32, hext, by omega, hss, by rw [show isTm T1 va1 X = false from by unfold isTm; rw [show (wf2 T1 va1 X).1 = false from hO]; rfl]; rw [if_neg (by decide)], BtA.same hBA (fun k hk => (o_28 k (by omega)).trans (o_24 k (by omega))), fun k hk => ((o_28 k (by omega)).trans (o_24 k (by omega))).trans (hf1 k hk)⟩
            · cases h_31
          · cases h_22
      | true =>
        cases S with
        | nil =>
          have hO : bl = [(pl2 X).1] ∧ (wf2 T1 va1 X).1 = true := hO
          obtain ⟨hbl, -⟩ := id hO
          subst hbl
          have y0 : w1 1000 = (b, some (mdE B (btX x n1 ((s1 : Nat) : Int) 0 1))) := y0
          refine pw_aload_n (i := 0) C dX10_termOf_17 rfl rfl (Or.inr ⟨_, rfl⟩) ?_
          refine pw_get (j := 45) C cl_X10 fl_X10_313 (by decide) rfl y0 rfl dX10_termOf_18 ?_
          refine pw_stk (st' := [.int (iZ 0)]) rfl ?_
          refine pw_iload_n (i := 2) C dX10_termOf_21 rfl rfl ?_
          refine pw_icmp_le (tgt := 147) C (by omega) (by omega) dX10_termOf_22 (by decide) (fun h_101 => ?_) (fun h_101 => ?_)
          · refine pw_aload_n (i := 0) C dX10_termOf_147 rfl rfl (Or.inr ⟨_, rfl⟩) ?_
            refine pw_iload_n (i := 2) C dX10_termOf_148 rfl rfl ?_
            refine pw_put (j := 45) C cl_X10 fl_X10_313 (by decide) rfl rfl rfl rfl rfl y0 (Nat.le_of_ble_eq_true rfl) dX10_termOf_149 (fun w_104 k_102 o_103 => ?_)
            have k_105 : w_104 1000 = (b, some (mdE B (va_up (btX x n1 ((s1 : Nat) : Int) 0 1) 45 0))) := k_102
            refine pw_aload_n (i := 0) C dX10_termOf_152 rfl rfl (Or.inr ⟨_, rfl⟩) ?_
            refine pw_iload_n (i := 3) C dX10_termOf_153 rfl rfl ?_
            refine pw_put (j := 47) C cl_X10 fl_X10_307 (by decide) rfl rfl rfl rfl rfl k_105 (Nat.le_of_ble_eq_true rfl) dX10_termOf_154 (fun w_108 k_106 o_107 => ?_)
            have k_109 : w_108 1000 = (b, some (mdE B (va_up (va_up (btX x n1 ((s1 : Nat) : Int) 0 1) 45 0) 47 0))) := k_106
            refine pw_iload C dX10_termOf_157 rfl ?_
            refine pw_if_eqB (tgt := 186) C dX10_termOf_159 (by decide) (fun h_110 => ?_) (fun h_110 => ?_)
            · cases h_110
            · refine pw_aload_n (i := 0) C dX10_termOf_162 rfl rfl (Or.inr ⟨_, rfl⟩) ?_
              refine pw_aload_n (i := 0) C dX10_termOf_163 rfl rfl (Or.inr ⟨_, rfl⟩) ?_
              refine pw_get (j := 46) C cl_X10 fl_X10_101 (by decide) rfl k_109 rfl dX10_termOf_164 ?_
              refine pw_stk (st' := [.ref (B 46), .ref b]) rfl ?_
              refine pw_iload_n (i := 3) C dX10_termOf_167 rfl rfl ?_
              have c_111 := ((o_107 1047 (by omega)).trans (o_103 1047 (by omega))).trans p4
              refine pw_iald C c_111 ⟨by decide, by decide, by decide⟩ dX10_termOf_168 ?_
              have R_112 := hR1.same (w' := w_108) (fun k hk => (o_107 k (by omega)).trans (o_103 k (by omega)))
              refine pw_callV (As := [.int (iZ (fk 0))]) (st := []) C (m_X10_sizeOf g l k_109 R_112 rfl rfl hK1 hBt.1 hBt.2.1) my_X10_sizeOf ml_X10_310 (pw_rec.of C k_109 cl_X10.1) rfl ⟨Nat.le_of_ble_eq_true rfl, Nat.le_of_ble_eq_true rfl⟩ ⟨by (try dsimp only); omega, by (try dsimp only); omega⟩ rfl (Nat.le_of_ble_eq_true rfl) dX10_termOf_169 ?_
              rintro _ _ ⟨rfl, rfl⟩
              have hszm := szm_1 (pl2 X).1
              refine pw_stk (st' := [.int (iZ ((szm (pl2 X).1 : Nat) : Int))]) rfl ?_
              refine pw_bipush C dX10_termOf_172 (by decide) ?_
              refine pw_icmp_gt (tgt := 186) C (by omega) (by omega) dX10_termOf_174 (by decide) (fun h_113 => ?_) (fun h_113 => ?_)
              · refine pw_iconst C dX10_termOf_186 ?_
                exact pw_iret C hr dX10_termOf_187 ⟨(-1), t1, n1, s1, Z1, g1, g2, g3, fk, rfl, by rw [k_109]; exact cellX h45 h47, R_112, hext, by omega, hss, by rw [show isTm T1 va1 X = false from by unfold isTm; rw [hO.2, decide_eq_false (fun q => by rw [← (pl2_sz T1 X).1 hO.2, ← szm_120 hBt.2.2.1] at q; omega)]; rfl]; rw [if_neg (by decide)], BtA.same hBA (fun k hk => (o_107 k (by omega)).trans (o_103 k (by omega))), fun k hk => ((o_107 k (by omega)).trans (o_103 k (by omega))).trans (hf1 k hk)⟩
              · refine pw_aload_n (i := 0) C dX10_termOf_177 rfl rfl (Or.inr ⟨_, rfl⟩) ?_
                refine pw_get (j := 46) C cl_X10 fl_X10_101 (by decide) rfl k_109 rfl dX10_termOf_178 ?_
                refine pw_stk (st' := [.ref (B 46)]) rfl ?_
                refine pw_iload_n (i := 3) C dX10_termOf_181 rfl rfl ?_
                refine pw_iald C c_111 ⟨by decide, by decide, by decide⟩ dX10_termOf_182 ?_
                refine pw_goto (tgt := 187) C dX10_termOf_183 (by decide) ?_
                exact pw_iret C hr dX10_termOf_187 ⟨(fk 0), t1, n1, s1, Z1, g1, g2, g3, fk, rfl, by rw [k_109]; exact cellX h45 h47, R_112, hext, by omega, hss, by rw [show isTm T1 va1 X = true from by unfold isTm; rw [hO.2, decide_eq_true (by rw [← (pl2_sz T1 X).1 hO.2, ← szm_120 hBt.2.2.1]; omega)]; rfl]; rw [if_pos rfl]; exact hBt.1, BtA.same hBA (fun k hk => (o_107 k (by omega)).trans (o_103 k (by omega))), fun k hk => ((o_107 k (by omega)).trans (o_103 k (by omega))).trans (hf1 k hk)⟩
          · exfalso; omega
        | cons f S1 =>
          obtain ⟨N, R, L⟩ := f
          have hO : bl = btL ((N, R, L) :: S1) ∧ tmX ((N, R, L) :: S1) = (pl2 X).1 ∧ gdS T1 ((N, R, L) :: S1) = (wf2 T1 va1 X).1 := hO
          obtain ⟨hbe, -⟩ := id hO
          subst hbe
          have hll : ((N, R, L) :: S1).length = S1.length + 1 := rfl
          have hbl : (btL ((N, R, L) :: S1)).length = (btL S1).length + L.length := by simp [btL]
          have hnds : ndS ((N, R, L) :: S1) = (nd2 R).2 + ndS S1 := rfl
          have hRr := Vl.rg hR1 hFr.2.1
          refine pw_aload_n (i := 0) C dX10_termOf_17 rfl rfl (Or.inr ⟨_, rfl⟩) ?_
          refine pw_get (j := 45) C cl_X10 fl_X10_313 (by decide) rfl y0 rfl dX10_termOf_18 ?_
          refine pw_stk (st' := [.int (iZ ((((N, R, L) :: S1).length : Nat) : Int))]) rfl ?_
          refine pw_iload_n (i := 2) C dX10_termOf_21 rfl rfl ?_
          refine pw_icmp_le (tgt := 147) C (by omega) (by omega) dX10_termOf_22 (by decide) (fun h_301 => ?_) (fun h_301 => ?_)
          · exfalso; omega
          · refine pw_iload C dX10_termOf_25 rfl ?_
            refine pw_if_eqB (tgt := 147) C dX10_termOf_27 (by decide) (fun h_302 => ?_) (fun h_302 => ?_)
            · cases h_302
            · refine pw_aload_n (i := 0) C dX10_termOf_30 rfl rfl (Or.inr ⟨_, rfl⟩) ?_
              refine pw_get (j := 45) C cl_X10 fl_X10_313 (by decide) rfl y0 rfl dX10_termOf_31 ?_
              refine pw_stk (st' := [.int (iZ ((((N, R, L) :: S1).length : Nat) : Int))]) rfl ?_
              refine pw_iconst C dX10_termOf_34 ?_
              refine pw_isub C dX10_termOf_35 ?_
              refine pw_stk (st' := [.int (iZ ((S1.length : Nat) : Int))]) (by rw [show ((((N, R, L) :: S1).length : Nat) : Int) - 1 = ((S1.length : Nat) : Int) by omega]) ?_
              refine pw_istore (lv' := [(0, .ref b), (1, .int (iZ o)), (2, .int (iZ 0)), (3, .int (iZ 0)), (4, .int (iZ (b2i true))), (5, .int (iZ ((S1.length : Nat) : Int)))]) C dX10_termOf_36 (by decide) rfl ?_
              refine pw_aload_n (i := 0) C dX10_termOf_38 rfl rfl (Or.inr ⟨_, rfl⟩) ?_
              refine pw_get (j := 43) C cl_X10 fl_X10_95 (by decide) rfl y0 rfl dX10_termOf_39 ?_
              refine pw_stk (st' := [.ref (B 43)]) rfl ?_
              refine pw_iload C dX10_termOf_42 rfl ?_
              have g_303 := p6 ((S1.length : Nat) : Int)
              refine pw_iald C p2 ⟨by omega, by omega, by omega⟩ dX10_termOf_44 ?_
              refine pw_if_ne (tgt := 103) C (by omega) dX10_termOf_45 (by decide) (fun h_304 => ?_) (fun h_304 => ?_)
              · have hRp : obP R = true := by
                  cases hb : obP R with
                  | true => rfl
                  | false => exact absurd ((RS.inj hR1 hFr.2.1 hK1.nil).mpr (obLen_np hb hFr.2.2.2.2.1).1) (by omega)
                have hRc := (hln _ _ hFr.2.1).1 hRp
                have hAv := hRc.1
                have hAr := Vl.rg hR1 hAv
                have hBr := Vl.rg hR1 hRc.2
                refine pw_aload_n (i := 0) C dX10_termOf_103 rfl rfl (Or.inr ⟨_, rfl⟩) ?_
                refine pw_get (j := 0) C cl_X10 fl_X10_8 (by decide) rfl y0 rfl dX10_termOf_104 ?_
                refine pw_stk (st' := [.ref (B 0)]) rfl ?_
                refine pw_aload_n (i := 0) C dX10_termOf_107 rfl rfl (Or.inr ⟨_, rfl⟩) ?_
                refine pw_get (j := 43) C cl_X10 fl_X10_95 (by decide) rfl y0 rfl dX10_termOf_108 ?_
                refine pw_stk (st' := [.ref (B 43), .ref (B 0)]) rfl ?_
                refine pw_iload C dX10_termOf_111 rfl ?_
                have g_305 := p6 ((S1.length : Nat) : Int)
                refine pw_iald C p2 ⟨by omega, by omega, by omega⟩ dX10_termOf_113 ?_
                have g_306 := m0 (g2 ((S1.length : Nat) : Int))
                refine pw_iald C l0 ⟨by omega, by omega, by omega⟩ dX10_termOf_114 ?_
                refine pw_istore (lv' := [(0, .ref b), (1, .int (iZ o)), (2, .int (iZ 0)), (3, .int (iZ 0)), (4, .int (iZ (b2i true))), (5, .int (iZ ((S1.length : Nat) : Int))), (6, .int (iZ (fL (g2 ((S1.length : Nat) : Int)))))]) C dX10_termOf_115 (by decide) rfl ?_
                refine pw_aload_n (i := 0) C dX10_termOf_117 rfl rfl (Or.inr ⟨_, rfl⟩) ?_
                refine pw_get (j := 43) C cl_X10 fl_X10_95 (by decide) rfl y0 rfl dX10_termOf_118 ?_
                refine pw_stk (st' := [.ref (B 43)]) rfl ?_
                refine pw_iload C dX10_termOf_121 rfl ?_
                refine pw_aload_n (i := 0) C dX10_termOf_123 rfl rfl (Or.inr ⟨_, rfl⟩) ?_
                refine pw_get (j := 1) C cl_X10 fl_X10_14 (by decide) rfl y0 rfl dX10_termOf_124 ?_
                refine pw_stk (st' := [.ref (B 1), .int (iZ ((S1.length : Nat) : Int)), .ref (B 43)]) rfl ?_
                refine pw_aload_n (i := 0) C dX10_termOf_127 rfl rfl (Or.inr ⟨_, rfl⟩) ?_
                refine pw_get (j := 43) C cl_X10 fl_X10_95 (by decide) rfl y0 rfl dX10_termOf_128 ?_
                refine pw_stk (st' := [.ref (B 43), .ref (B 1), .int (iZ ((S1.length : Nat) : Int)), .ref (B 43)]) rfl ?_
                refine pw_iload C dX10_termOf_131 rfl ?_
                have g_307 := p6 ((S1.length : Nat) : Int)
                refine pw_iald C p2 ⟨by omega, by omega, by omega⟩ dX10_termOf_133 ?_
                have g_308 := m1 (g2 ((S1.length : Nat) : Int))
                refine pw_iald C l1 ⟨by omega, by omega, by omega⟩ dX10_termOf_134 ?_
                refine pw_iast C p2 ⟨by omega, by omega, by omega⟩ dX10_termOf_135 (fun w_311 k_309 o_310 => ?_)
                refine pw_aload_n (i := 0) C dX10_termOf_136 rfl rfl (Or.inr ⟨_, rfl⟩) ?_
                refine pw_iload C dX10_termOf_137 rfl ?_
                have c_312 := (o_310 1000 (by omega)).trans y0
                have c_313 := (o_310 1043 (by omega)).trans p1
                have c_314 := (o_310 1045 (by omega)).trans p3
                have c_315 := (o_310 1047 (by omega)).trans p4
                have R_316 := hR1.same (w' := w_311) (fun k hk => (o_310 k (by omega)))
                have hDx := hD.same (w' := w_311) (fun k hk => ((o_310 k (by omega))).trans (hf1 k (by omega))) hext
                refine pw_callV (As := [.int (iZ (fL (g2 ((S1.length : Nat) : Int))))]) (st := []) C (m_X10_beginTerm g l c_312 R_316 rfl rfl hK1 hDx (by exact h32) hAv (T1 := T1) hT hDl (hOw.ext hext) hT1n hT1r hcn (by exact h37) hcm (by exact h38) (c1 := ((((N, R, L) :: S1).length : Nat) : Int)) (v1 := (((btL ((N, R, L) :: S1)).length : Nat) : Int)) rfl rfl ⟨c_313, k_309, c_314, c_315, p5, upz_inI p6 (by omega), p7, p8⟩ (by omega) (by omega) (by omega)) my_X10_beginTerm ml_X10_334 (pw_rec.of C c_312 cl_X10.1) rfl ⟨Nat.le_of_ble_eq_true rfl, Nat.le_of_ble_eq_true rfl⟩ ⟨by (try dsimp only); omega, by (try dsimp only); omega⟩ rfl (Nat.le_of_ble_eq_true rfl) dX10_termOf_139 ?_
                rintro _ w5 ⟨rfl, t5, n5, s5, Z5, R5, x5, hn5, hs5, hZ5, ho5, hcase⟩
                have x51 := x5.1
                have R5n := R5.n
                refine pw_stk (st' := [.int (iZ (b2i (bgO T1 (obCar R))))]) rfl ?_
                refine pw_istore (lv' := [(0, .ref b), (1, .int (iZ o)), (2, .int (iZ 0)), (3, .int (iZ 0)), (4, .int (iZ (b2i (bgO T1 (obCar R))))), (5, .int (iZ ((S1.length : Nat) : Int))), (6, .int (iZ (fL (g2 ((S1.length : Nat) : Int)))))]) C dX10_termOf_142 (by decide) rfl ?_
                refine pw_goto (tgt := 17) C dX10_termOf_144 (by decide) ?_
                refine pw_sub [0, 1, 2, 3, 4] rfl ?_
                have hgd0 : gdS T1 ((N, R, L) :: S1) = ((wf2 T1 va1 (obCar R)).1 && gdS T1 ((N, obCdr R, L ++ [(pl2 (obCar R)).1]) :: S1)) := by simp only [gdS]; rw [wf2_cons hRp, Bool.and_assoc]
                have hFr1 : FrT t5 n5 g1 (upz g2 ((S1.length : Nat) : Int) (fR (g2 ((S1.length : Nat) : Int)))) g3 ((N, obCdr R, L) :: S1) := by
                  obtain ⟨⟨Xc, a1, a2, a3⟩, a4, a5, a6, a7, a8⟩ := hFr
                  exact ⟨⟨Xc, a1.ext x5, a2, a3⟩, by rw [upz_self]; exact hRc.2.ext x5, a5, a6, (obLen_cdr hRp a7).2, a8.keep x5 (fun j j0 j1 => ⟨rfl, upz_ne _ _ (by omega), rfl⟩)⟩
                have hBx := BtI.ext x5 (SZ.mono (t' := t5) (n' := n5) hZ5) hBt
                have hndR := nd2_p hRp
                have hnd1 := nd2_1 (obCar R)
                cases hbg : bgO T1 (obCar R) with
                | false =>
                  rw [if_pos hbg] at hcase
                  exact ih w5 t5 n5 s5 Z5 g1 _ g3 fk false ((N, obCdr R, L) :: S1) (btL ((N, R, L) :: S1)) (by simp only [ndS, List.length_cons] at hkk ⊢; omega) R5 (hK1.ext x5) (hext.tr x5) hcase.1 hcase.2 hFr1 hBx (by show (wf2 T1 va1 X).1 = false; rw [← hO.2.2, hgd0, wf_bg hbg]; rfl) (by simp only [ndS, List.length_cons] at hQ ⊢; omega) (by simp only [ndS, List.length_cons] at hN3 ⊢; omega) (by omega) (fun k hk => ((ho5 k (by omega)).trans (o_310 k (by omega))).trans (hf1 k hk))
                | true =>
                  rw [if_neg (by rw [hbg]; decide)] at hcase
                  cases hic : isCl (obCar R) with
                  | true =>
                    rw [if_pos hic] at hcase
                    obtain ⟨y, c1, c2, c3, c4⟩ := hcase
                    obtain ⟨k1, k2, k3, k4, k5⟩ := wf_call hbg hic
                    have hnda := nd2_p k2
                    refine ih w5 t5 n5 s5 Z5 _ _ _ fk true ((obCar (obCar R), obCdr (obCar R), []) :: (N, obCdr R, L) :: S1) (btL ((N, R, L) :: S1)) (by simp only [ndS, List.length_cons] at hkk ⊢; omega) R5 (hK1.ext x5) (hext.tr x5) (by rw [c1]; rfl) c2 ⟨⟨obCar R, by rw [show (((((N, obCdr R, L) :: S1) : List TF).length : Nat) : Int) = ((((N, R, L) :: S1).length : Nat) : Int) from rfl, upz_self]; exact hAv.ext x5, k2, rfl⟩, by rw [show (((((N, obCdr R, L) :: S1) : List TF).length : Nat) : Int) = ((((N, R, L) :: S1).length : Nat) : Int) from rfl, upz_self]; exact c3, by rw [show (((((N, obCdr R, L) :: S1) : List TF).length : Nat) : Int) = ((((N, R, L) :: S1).length : Nat) : Int) from rfl, upz_self]; rfl, k5, k4, hFr1.keep Ext.rf (fun j j0 j1 => ⟨upz_ne _ _ (by simp only [List.length_cons] at j1 ⊢; omega), upz_ne _ _ (by simp only [List.length_cons] at j1 ⊢; omega), upz_ne _ _ (by simp only [List.length_cons] at j1 ⊢; omega)⟩)⟩ hBx ⟨by simp [btL], ?_, ?_⟩ (by simp only [ndS, List.length_cons] at hQ ⊢; omega) (by simp only [ndS, List.length_cons] at hN3 ⊢; omega) (by omega) (fun k hk => ((ho5 k (by omega)).trans (o_310 k (by omega))).trans (hf1 k hk))
                    · rw [← hO.2.1, tmX_arg hRp, pl_call k2 k3 k4]; rfl
                    · rw [← hO.2.2, hgd0, k1]; rfl
                  | false =>
                    rw [if_neg (by rw [hic]; decide)] at hcase
                    obtain ⟨z, c1, c2, c3⟩ := hcase
                    obtain ⟨k1, k2⟩ := wf_one hbg hic
                    have hnc := pl_nc k2
                    have hbe : btL ((N, obCdr R, L ++ [(pl2 (obCar R)).1]) :: S1) = (btL ((N, R, L) :: S1)) ++ [(pl2 (obCar R)).1] := by simp [btL]
                    exact ih w5 t5 n5 s5 Z5 _ _ _ _ true ((N, obCdr R, L ++ [(pl2 (obCar R)).1]) :: S1) ((btL ((N, R, L) :: S1)) ++ [(pl2 (obCar R)).1]) (by simp only [ndS, List.length_cons] at hkk ⊢; omega) R5 (hK1.ext x5) (hext.tr x5) (by rw [c1, show ((((btL ((N, R, L) :: S1)) ++ [(pl2 (obCar R)).1]).length : Nat) : Int) = (((btL ((N, R, L) :: S1)).length : Nat) : Int) + 1 by simp]; rfl) c2 hFr1 (BtI.split.mpr ⟨hBx.up (by omega), by rw [Int.zero_add, BtI, upz_self]; exact ⟨c3, (fun q => by rw [hnc.1] at q; cases q), fun _ => hnc.2, trivial⟩⟩) ⟨hbe.symm, by rw [← hO.2.1, tmX_arg hRp], by rw [← hO.2.2, hgd0, k1]; rfl⟩ (by simp only [ndS, List.length_cons, List.length_append, List.length_nil] at hQ ⊢; omega) (by simp only [ndS, List.length_cons, List.length_append, List.length_nil] at hN3 ⊢; omega) (by omega) (fun k hk => ((ho5 k (by omega)).trans (o_310 k (by omega))).trans (hf1 k hk))
              · have hRn : R = oNil := (RS.inj hR1 hFr.2.1 hK1.nil).mp (by omega)
                refine pw_aload_n (i := 0) C dX10_termOf_48 rfl rfl (Or.inr ⟨_, rfl⟩) ?_
                refine pw_dup C dX10_termOf_49 rfl ?_
                refine pw_get (j := 45) C cl_X10 fl_X10_313 (by decide) rfl y0 rfl dX10_termOf_50 ?_
                refine pw_stk (st' := [.int (iZ ((((N, R, L) :: S1).length : Nat) : Int)), .ref b]) rfl ?_
                refine pw_iconst C dX10_termOf_53 ?_
                refine pw_isub C dX10_termOf_54 ?_
                refine pw_put (j := 45) C cl_X10 fl_X10_313 (by decide) rfl rfl rfl rfl rfl y0 (Nat.le_of_ble_eq_true rfl) dX10_termOf_55 (fun w_319 k_317 o_318 => ?_)
                have k_320 : w_319 1000 = (b, some (mdE B (va_up (btX x n1 ((s1 : Nat) : Int) ((((N, R, L) :: S1).length : Nat) : Int) (((btL ((N, R, L) :: S1)).length : Nat) : Int)) 45 (((((N, R, L) :: S1).length : Nat) : Int) - 1)))) := k_317
                obtain ⟨Xc, hXc, hXp, hXn⟩ := hFr.1
                have hXcc := ((hln _ _ hXc).1 hXp).1
                have hNv : Vl t1 n1 (fL (g1 ((S1.length : Nat) : Int))) N := by rw [← show obCar Xc = N from hXn]; exact hXcc
                have hXr := Vl.rg hR1 hXc
                have hNr := Vl.rg hR1 hNv
                refine pw_aload_n (i := 0) C dX10_termOf_58 rfl rfl (Or.inr ⟨_, rfl⟩) ?_
                refine pw_aload_n (i := 0) C dX10_termOf_59 rfl rfl (Or.inr ⟨_, rfl⟩) ?_
                refine pw_get (j := 0) C cl_X10 fl_X10_8 (by decide) rfl k_320 rfl dX10_termOf_60 ?_
                refine pw_stk (st' := [.ref (B 0), .ref b]) rfl ?_
                refine pw_aload_n (i := 0) C dX10_termOf_63 rfl rfl (Or.inr ⟨_, rfl⟩) ?_
                refine pw_get (j := 42) C cl_X10 fl_X10_92 (by decide) rfl k_320 rfl dX10_termOf_64 ?_
                refine pw_stk (st' := [.ref (B 42), .ref (B 0), .ref b]) rfl ?_
                refine pw_iload C dX10_termOf_67 rfl ?_
                have c_321 := (o_318 1043 (by omega)).trans p1
                have g_322 := p5 ((S1.length : Nat) : Int)
                refine pw_iald C c_321 ⟨by omega, by omega, by omega⟩ dX10_termOf_69 ?_
                have c_323 := (o_318 1001 (by omega)).trans l0
                have g_324 := m0 (g1 ((S1.length : Nat) : Int))
                refine pw_iald C c_323 ⟨by omega, by omega, by omega⟩ dX10_termOf_70 ?_
                refine pw_aload_n (i := 0) C dX10_termOf_71 rfl rfl (Or.inr ⟨_, rfl⟩) ?_
                refine pw_get (j := 44) C cl_X10 fl_X10_98 (by decide) rfl k_320 rfl dX10_termOf_72 ?_
                refine pw_stk (st' := [.ref (B 44), .int (iZ (fL (g1 ((S1.length : Nat) : Int)))), .ref b]) rfl ?_
                refine pw_iload C dX10_termOf_75 rfl ?_
                have c_325 := (o_318 1045 (by omega)).trans p3
                have g_326 := p7 ((S1.length : Nat) : Int)
                refine pw_iald C c_325 ⟨by omega, by omega, by omega⟩ dX10_termOf_77 ?_
                have c_327 := (o_318 1047 (by omega)).trans p4
                have R_328 := hR1.same (w' := w_319) (fun k hk => (o_318 k (by omega)))
                obtain ⟨hBa, hBb⟩ := BtI.split.mp (show BtI t1 n1 Z1 fk 0 (btL S1 ++ L) from hBt)
                rw [Int.zero_add] at hBb
                refine pw_callV (As := [.int (iZ (fL (g1 ((S1.length : Nat) : Int)))), .int (iZ (((btL S1).length : Nat) : Int))]) (st := []) C (m_X10_callFrom g l k_320 R_328 rfl rfl hK1 (fr := (((btL S1).length : Nat) : Int)) (L := L) hNv hFr.2.2.2.1 (by show (((btL ((N, R, L) :: S1)).length : Nat) : Int) = _; omega) (by omega) c_327 p8 hBb (by omega) (by omega)) my_X10_callFrom ml_X10_337 (pw_rec.of C k_320 cl_X10.1) rfl ⟨Nat.le_of_ble_eq_true rfl, Nat.le_of_ble_eq_true rfl⟩ ⟨by (try dsimp only); omega, by (try dsimp only); omega⟩ (by rw [hFr.2.2.1]; rfl) (Nat.le_of_ble_eq_true rfl) dX10_termOf_78 ?_
                rintro _ w5 ⟨z5, t5, n5, s5, Z5, rfl, e5, R5, x5, hn5, hs5, hZ5, hz5, hzz5, ho5⟩
                have x51 := x5.1
                have R5n := R5.n
                have hz5r := Vl.rg R5 hz5
                refine pw_stk (st' := [.int (iZ z5)]) rfl ?_
                refine pw_istore (lv' := [(0, .ref b), (1, .int (iZ o)), (2, .int (iZ 0)), (3, .int (iZ 0)), (4, .int (iZ (b2i true))), (5, .int (iZ ((S1.length : Nat) : Int))), (6, .int (iZ z5))]) C dX10_termOf_81 (by decide) rfl ?_
                refine pw_aload_n (i := 0) C dX10_termOf_83 rfl rfl (Or.inr ⟨_, rfl⟩) ?_
                refine pw_aload_n (i := 0) C dX10_termOf_84 rfl rfl (Or.inr ⟨_, rfl⟩) ?_
                refine pw_get (j := 44) C cl_X10 fl_X10_98 (by decide) rfl e5 rfl dX10_termOf_85 ?_
                refine pw_stk (st' := [.ref (B 44), .ref b]) rfl ?_
                refine pw_iload C dX10_termOf_88 rfl ?_
                have c_329 := (ho5 1045 (by omega)).trans c_325
                refine pw_iald C c_329 ⟨by omega, by omega, by omega⟩ dX10_termOf_90 ?_
                refine pw_stk (st' := [.int (iZ (((btL S1).length : Nat) : Int)), .ref b]) (by rw [hFr.2.2.1]) ?_
                refine pw_put (j := 47) C cl_X10 fl_X10_307 (by decide) rfl rfl rfl rfl rfl e5 (Nat.le_of_ble_eq_true rfl) dX10_termOf_91 (fun w_332 k_330 o_331 => ?_)
                have k_333 : w_332 1000 = (b, some (mdE B (va_up (va_up (va_up (va_up (btX x n1 ((s1 : Nat) : Int) ((((N, R, L) :: S1).length : Nat) : Int) (((btL ((N, R, L) :: S1)).length : Nat) : Int)) 45 (((((N, R, L) :: S1).length : Nat) : Int) - 1)) 7 n5) 10 ((s5 : Nat) : Int)) 47 (((btL S1).length : Nat) : Int)))) := k_330
                refine pw_aload_n (i := 0) C dX10_termOf_94 rfl rfl (Or.inr ⟨_, rfl⟩) ?_
                refine pw_iload C dX10_termOf_95 rfl ?_
                have c_334 := ((o_331 1047 (by omega)).trans (ho5 1047 (by omega))).trans c_327
                refine pw_callV (As := [.int (iZ z5)]) (st := []) C (m_X10_build g l k_333 (v := (((btL S1).length : Nat) : Int)) rfl c_334 p8 (c0 := z5) (by omega)) my_X10_build ml_X10_316 (pw_rec.of C k_333 cl_X10.1) rfl ⟨Nat.le_of_ble_eq_true rfl, Nat.le_of_ble_eq_true rfl⟩ ⟨by (try dsimp only); omega, by (try dsimp only); omega⟩ rfl (Nat.le_of_ble_eq_true rfl) dX10_termOf_97 ?_
                rintro _ w6 ⟨rfl, e6, f6, ho6⟩
                refine pw_stk (st' := []) rfl ?_
                refine pw_goto (tgt := 144) C dX10_termOf_100 (by decide) ?_
                refine pw_goto (tgt := 17) C dX10_termOf_144 (by decide) ?_
                refine pw_sub [0, 1, 2, 3, 4] rfl ?_
                have c_335 := ((ho6 1043 (by omega)).trans ((o_331 1043 (by omega)).trans (ho5 1043 (by omega)))).trans c_321
                have c_336 := ((ho6 1044 (by omega)).trans ((o_331 1044 (by omega)).trans ((ho5 1044 (by omega)).trans (o_318 1044 (by omega))))).trans p2
                have c_337 := ((ho6 1045 (by omega)).trans (o_331 1045 (by omega))).trans c_329
                have hbS : BtI t5 n5 Z5 (upz fk (((btL S1).length : Nat) : Int) z5) 0 (btL S1 ++ [.add N (mkL L)]) := BtI.split.mpr ⟨(BtI.ext x5 hZ5 hBa).up (by omega), by rw [Int.zero_add, BtI, upz_self]; exact ⟨hz5, hzz5, (fun q => by rw [(sz2_call (L := L) (show N ≠ oQuote from hFr.2.2.2.1)).1] at q; cases q), trivial⟩⟩
                cases S1 with
                | nil =>
                  exact ih w6 t5 n5 s5 Z5 g1 g2 g3 _ true [] [.add N (mkL L)] (by simp only [ndS, List.length_nil] at hkk ⊢; simp only [List.length_cons] at hkk; omega) (R5.same (fun k hk => (ho6 k (by omega)).trans (o_331 k (by omega)))) (hK1.ext x5) (hext.tr x5) (by rw [e6]; rfl) ⟨c_335, c_336, c_337, f6, p5, p6, p7, upz_inI p8 (by omega)⟩ trivial hbS ⟨by have h1 := hO.2.1; rw [hRn] at h1; rw [← h1]; show _ = [cF (N, oNil, L)]; rw [cF_nil], by rw [← hO.2.2, hRn]; rfl⟩ (by simp only [ndS, List.length_nil, List.length_cons] at hQ ⊢; omega) (by simp only [ndS, List.length_nil, List.length_cons] at hN3 ⊢; omega) (by omega) (fun k hk => ((ho6 k (by omega)).trans ((o_331 k (by omega)).trans ((ho5 k (by omega)).trans (o_318 k (by omega))))).trans (hf1 k hk))
                | cons h S2 =>
                  have hbe : btL ((h.1, h.2.1, h.2.2 ++ [.add N (mkL L)]) :: S2) = btL (h :: S2) ++ [.add N (mkL L)] := by simp [btL]
                  refine ih w6 t5 n5 s5 Z5 g1 g2 g3 _ true ((h.1, h.2.1, h.2.2 ++ [.add N (mkL L)]) :: S2) (btL (h :: S2) ++ [.add N (mkL L)]) (by simp only [ndS, List.length_cons] at hkk ⊢; omega) (R5.same (fun k hk => (ho6 k (by omega)).trans (o_331 k (by omega)))) (hK1.ext x5) (hext.tr x5) (by rw [e6]; exact cellE (by simp only [List.length_cons]; omega) (by simp)) ⟨c_335, c_336, c_337, f6, p5, p6, p7, upz_inI p8 (by omega)⟩ ?_ hbS ⟨hbe.symm, by rw [← hO.2.1, hRn]; simp only [tmX, tmV]; rw [cF_nil], by rw [← hO.2.2, hRn]; rfl⟩ (by simp only [ndS, List.length_cons, List.length_append, List.length_nil] at hQ hbl ⊢; omega) (by simp only [ndS, List.length_cons, List.length_append, List.length_nil] at hN3 hbl ⊢; omega) (by omega) (fun k hk => ((ho6 k (by omega)).trans ((o_331 k (by omega)).trans ((ho5 k (by omega)).trans (o_318 k (by omega))))).trans (hf1 k hk))
                  have hF2 := hFr.2.2.2.2.2.keep x5 (h1 := g1) (h2 := g2) (h3 := g3) (fun _ _ _ => ⟨rfl, rfl, rfl⟩)
                  exact hF2
  refine pw_aload_n (i := 0) C dX10_termOf_0 rfl rfl (Or.inr ⟨_, rfl⟩) ?_
  refine pw_get (j := 45) C cl_X10 fl_X10_313 (by decide) rfl h0 rfl dX10_termOf_1 ?_
  refine pw_stk (st' := [.int (iZ (x 45))]) rfl ?_
  refine pw_stk (st' := [.int (iZ 0)]) (by rw [h45]) ?_
  refine pw_istore_n (i := 2) (lv' := [(0, .ref b), (1, .int (iZ o)), (2, .int (iZ 0))]) C dX10_termOf_4 rfl (by decide) rfl ?_
  refine pw_aload_n (i := 0) C dX10_termOf_5 rfl rfl (Or.inr ⟨_, rfl⟩) ?_
  refine pw_get (j := 47) C cl_X10 fl_X10_307 (by decide) rfl h0 rfl dX10_termOf_6 ?_
  refine pw_stk (st' := [.int (iZ (x 47))]) rfl ?_
  refine pw_stk (st' := [.int (iZ 0)]) (by rw [h47]) ?_
  refine pw_istore_n (i := 3) (lv' := [(0, .ref b), (1, .int (iZ o)), (2, .int (iZ 0)), (3, .int (iZ 0))]) C dX10_termOf_9 rfl (by decide) rfl ?_
  refine pw_aload_n (i := 0) C dX10_termOf_10 rfl rfl (Or.inr ⟨_, rfl⟩) ?_
  refine pw_iload_n (i := 1) C dX10_termOf_11 rfl rfl ?_
  refine pw_callV (As := [.int (iZ o)]) (st := []) C (m_X10_beginTerm g l h0 hR h7 h10 hK hD h32 ho (T1 := T1) hT hDl hOw hT1n hT1r hcn h37 hcm h38 (c1 := 0) (v1 := 0) h45 h47 hB (by omega) (by omega) (by omega)) my_X10_beginTerm ml_X10_334 (pw_rec.of C h0 cl_X10.1) rfl ⟨Nat.le_of_ble_eq_true rfl, Nat.le_of_ble_eq_true rfl⟩ ⟨by (try dsimp only); omega, by (try dsimp only); omega⟩ rfl (Nat.le_of_ble_eq_true rfl) dX10_termOf_12 ?_
  rintro _ w5 ⟨rfl, t5, n5, s5, Z5, R5, x5, hn5, hs5, hZ5, ho5, hcase⟩
  have x51 := x5.1
  refine pw_stk (st' := [.int (iZ (b2i (bgO T1 X)))]) rfl ?_
  refine pw_istore (lv' := [(0, .ref b), (1, .int (iZ o)), (2, .int (iZ 0)), (3, .int (iZ 0)), (4, .int (iZ (b2i (bgO T1 X))))]) C dX10_termOf_15 (by decide) rfl ?_
  cases hbg : bgO T1 X with
  | false =>
    rw [if_pos hbg] at hcase
    exact loop 3000 w5 t5 n5 s5 Z5 g1 g2 g3 fk false [] [] (by simp only [ndS, List.length_nil]; omega) R5 (hK.ext x5) x5 hcase.1 hcase.2 trivial trivial (show (wf2 T1 va1 X).1 = false from wf_bg hbg) (by simp only [ndS, List.length_nil]; omega) (by simp only [ndS, List.length_nil]; omega) hs5 ho5
  | true =>
    rw [if_neg (by rw [hbg]; decide)] at hcase
    cases hic : isCl X with
    | true =>
      rw [if_pos hic] at hcase
      obtain ⟨y, c1, c2, c3, c4⟩ := hcase
      obtain ⟨k1, k2, k3, k4, k5⟩ := wf_call hbg hic
      have hnda := nd2_p k2
      exact loop 3000 w5 t5 n5 s5 Z5 _ _ _ fk true [(obCar X, obCdr X, [])] [] (by simp only [ndS, List.length_cons, List.length_nil]; omega) R5 (hK.ext x5) x5 (by rw [c1]; rfl) c2 ⟨⟨X, by show Vl t5 n5 (upz g1 0 o 0) X; rw [upz_self]; exact ho.ext x5, k2, rfl⟩, by show Vl t5 n5 (upz g2 0 y 0) _; rw [upz_self]; exact c3, by show upz g3 0 0 0 = _; rw [upz_self]; rfl, k5, k4, trivial⟩ trivial ⟨rfl, (pl_call k2 k3 k4).symm, by rw [k1]; simp only [gdS, Bool.and_true]⟩ (by simp only [ndS, List.length_cons, List.length_nil]; omega) (by simp only [ndS, List.length_cons, List.length_nil]; omega) hs5 ho5
    | false =>
      rw [if_neg (by rw [hic]; decide)] at hcase
      obtain ⟨z, c1, c2, c3⟩ := hcase
      obtain ⟨k1, k2⟩ := wf_one hbg hic
      have hnc := pl_nc k2
      have hnd1 := nd2_1 X
      exact loop 3000 w5 t5 n5 s5 Z5 _ _ _ _ true [] [(pl2 X).1] (by simp only [ndS, List.length_nil]; omega) R5 (hK.ext x5) x5 (by rw [c1]; rfl) c2 trivial ⟨by rw [upz_self]; exact c3, (fun q => by rw [hnc.1] at q; cases q), fun _ => hnc.2, trivial⟩ ⟨rfl, k1⟩ (by simp only [ndS, List.length_nil, List.length_cons]; omega) (by simp only [ndS, List.length_nil, List.length_cons]; omega) hs5 ho5

