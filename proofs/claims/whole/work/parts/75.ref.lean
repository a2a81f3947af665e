def StM (fk : Int → Int) (t : Int → Ob) (n : Int) : List (Bool × Ob) → Prop
  | [] => True
  | a :: S => (∃ z, fk ((S.length : Nat) : Int) = 2 * z + b2i a.1 ∧ Vl t n z a.2) ∧ StM fk t n S
def stx : List (Bool × Ob) → List Int
  | [] => []
  | a :: S => (if a.1 then (otx a.2).2.1 else (otx a.2).1) ++ stx S
theorem stx_f (X : Ob) (S : List (Bool × Ob)) : stx ((false, X) :: S) = (otx X).1 ++ stx S := rfl
theorem stx_t (X : Ob) (S : List (Bool × Ob)) : stx ((true, X) :: S) = (otx X).2.1 ++ stx S := rfl
theorem StM.up {fk : Int → Int} {t : Int → Ob} {n i v : Int} : ∀ {S : List (Bool × Ob)}, StM fk t n S → ((S.length : Nat) : Int) ≤ i → StM (upz fk i v) t n S
  | [], _, _ => trivial
  | a :: S, h, hi => by
    simp only [List.length_cons] at hi
    exact ⟨by rw [upz_ne _ _ (by omega)]; exact h.1, StM.up h.2 (by omega)⟩
theorem MOut.full {g : pw_P} {w : pw_W} {B : Nat → Nat} {v : Int} {L : List Int} (h : MOut g w B v L) (hv : 2000 ≤ v) (M : List Int) : MOut g w B v (L ++ M) := by
  obtain ⟨fo, h1, h2, h3⟩ := h
  exact ⟨fo, h1, h2, h3.full hv M⟩
theorem otm_np {X : Ob} (h : obP X = false) : (otx X).1 = atx X ∧ (otx X).2.1 = (if X = oNil then [41] else [32, 46, 32] ++ atx X ++ [41]) := by
  cases X <;> first | exact ⟨rfl, rfl⟩ | cases h
theorem otm_p {X : Ob} (h : obP X = true) : (otx X).2.1 = 32 :: ((otx (obCar X)).1 ++ (otx (obCdr X)).2.1) ∧ (obQ X = false → (otx X).1 = 40 :: ((otx (obCar X)).1 ++ (otx (obCdr X)).2.1)) ∧ (obQ X = true → (otx X).1 = 39 :: (otx (obCar (obCdr X))).1) := by
  cases X with
  | add a c =>
    refine ⟨rfl, fun hq => ?_, fun hq => ?_⟩
    · simp only [otx]; rw [if_neg (by rw [hq]; decide)]; rfl
    · simp only [otx]; rw [if_pos hq]
      unfold obQ at hq
      simp only [Bool.and_eq_true] at hq
      have hp := hq.2.1
      simp only [obCdr] at hp ⊢
      cases c with
      | add d e => rfl
      | _ => cases hp
  | _ => cases h
theorem szF_grow {L M : List Int} (h : 1 ≤ M.length) (hl : szF L < 2000) : szF L + 1 ≤ szF (L ++ M) := by
  unfold szF at hl ⊢
  rw [List.length_append]
  split at hl <;> split <;> split <;> omega
theorem atx_ne {g : pw_P} {w : pw_W} {B : Nat → Nat} {t : Int → Ob} {n o : Int} {s : Nat} {fZ : Int → Int} {X : Ob} (hR : RS g w B t n s fZ) (ho : Vl t n o X) (hp : obP X = false) : 1 ≤ (atx X).length := by
  obtain ⟨fL, fR, fH, fV, l0, l1, l4, l5, -, hln⟩ := RS.lens hR
  have hk := hln o X ho
  cases hS : obS X with
  | true =>
    obtain ⟨fR, fM, fE, mw, -, -, -, -, -, -, hm, hat⟩ := RS.sy hR ho hS
    rw [hat, wlF_len]; exact hm.1
  | false =>
    have hN : obN X = true := by
      have e1 := hk.2.1
      rw [hp] at e1
      have e2 := of_decide_eq_false e1.symm
      have e3 := hk.2.2.2.1
      rw [hS] at e3
      have e4 := of_decide_eq_false e3.symm
      have e5 := hk.2.2.2.2.2.2
      rw [hk.2.2.1]; exact decide_eq_true (by omega)
    cases X with
    | arg m => exact dgF_ne _ 18
    | _ => cases hN
set_option maxRecDepth 100000 in
set_option maxHeartbeats 4000000 in
/-- tellObject -/
theorem m_X10_tellObject (g : pw_P) (l : Launch) {w : pw_W} {b : Nat} {B : Nat → Nat} {x : Nat → Int} (h0 : w 1000 = (b, some (mdE B x))) {t : Int → Ob} {n : Int} {sN : Nat} {fZ : Int → Int} (hR : RS g w B t n sN fZ) (h7 : x 7 = n) (h10 : x 10 = ((sN : Nat) : Int)) (hK : RK t n) {o v : Int} {X : Ob} {L : List Int} {fk0 : Int → Int} (ho : Vl t n o X) (h15 : x 15 = v) (hO : MOut g w B v L) (a18 : w 1019 = (B 18, some (AI g 4000 fk0))) (u18 : ∀ j, inI (fk0 j)) : pw_M g l yX10_tellObject cX10_tellObject 4 none { frames := 2, cells := 0, slots := 0, locals := 44 } [.ref b, .int (iZ o)] w (fun r w' => r = none ∧ (∃ v' k' fk', w' 1000 = (b, some (mdE B (va_up (va_up x 15 v') 19 k'))) ∧ MOut g w' B v' (L ++ (otx X).1) ∧ w' 1019 = (B 18, some (AI g 4000 fk')) ∧ ∀ j, inI (fk' j)) ∧ ∀ k, (k ≠ 1000 ∧ k ≠ 1015 ∧ k ≠ 1019) → w' k = w k) := by
  refine pw_M.of (by decide) (Nat.le_of_ble_eq_true rfl) rfl ?_
  intro p e s m args below meth c C hr hn
  obtain ⟨fL, fR, fH, fV, l0, l1, l4, l5, ⟨m0, m1, m4, m5⟩, hln⟩ := RS.lens hR
  have hRn := hR.n
  have hOv := hO.v
  have hor := Vl.rg hR ho
  have loop : ∀ (kk : Nat) (w1 : pw_W) (v1 : Int) (L1 : List Int) (S : List (Bool × Ob)) (fk : Int → Int), 2000 - v1 ≤ kk → w1 1000 = (b, some (mdE B (va_up (va_up x 15 v1) 19 ((S.length : Nat) : Int)))) → MOut g w1 B v1 L1 → w1 1019 = (B 18, some (AI g 4000 fk)) → (∀ j, inI (fk j)) → StM fk t n S → L1 ++ stx S = L ++ (otx X).1 → ((S.length : Nat) : Int) ≤ 1 + v1 → (∀ k, (k ≠ 1000 ∧ k ≠ 1015 ∧ k ≠ 1019) → w1 k = w k) → pw_G g p l e { frames := 2, cells := 0, slots := 0, locals := 44 } s m args below meth c 4 (pw_Q g below (fun r w' => r = none ∧ (∃ v' k' fk', w' 1000 = (b, some (mdE B (va_up (va_up x 15 v') 19 k'))) ∧ MOut g w' B v' (L ++ (otx X).1) ∧ w' 1019 = (B 18, some (AI g 4000 fk')) ∧ ∀ j, inI (fk' j)) ∧ ∀ k, (k ≠ 1000 ∧ k ≠ 1015 ∧ k ≠ 1019) → w' k = w k) args s { frames := 2, cells := 0, slots := 0, locals := 44 }) 0 0 12 [(0, .ref b), (1, .int (iZ o))] [] w1 := by
    intro kk
    induction kk with
    | zero =>
      intro w1 v1 L1 S fk hkk y0 hO1 y19 g19 hSt hq hsl hf1
      have hv1 := hO1.v
      cases S with
      | nil =>
        have y0 : w1 1000 = (b, some (mdE B (va_up (va_up x 15 v1) 19 0))) := y0
        refine pw_aload_n (i := 0) C dX10_tellObject_12 rfl rfl (Or.inr ⟨_, rfl⟩) ?_
        refine pw_get (j := 19) C cl_X10 fl_X10_274 (by decide) rfl y0 rfl dX10_tellObject_13 ?_
        refine pw_stk (st' := [.int (iZ 0)]) rfl ?_
        refine pw_if_le (tgt := 229) C (by omega) dX10_tellObject_16 (by decide) (fun h_11 => ?_) (fun h_11 => ?_)
        · exact pw_vret C hr dX10_tellObject_229 ⟨rfl, ⟨v1, _, fk, y0, by rw [← hq]; simp only [stx]; rw [List.append_nil]; exact hO1, y19, g19⟩, hf1⟩
        · exfalso; omega
      | cons a S1 =>
        obtain ⟨q, X1⟩ := a
        obtain ⟨⟨z, hz, hk1⟩, -⟩ := id hSt
        have hzr := Vl.rg hR hk1
        have ih : True := trivial
        cases q with
        | false =>
          have hll : ((false, X1) :: S1).length = S1.length + 1 := rfl
          refine pw_aload_n (i := 0) C dX10_tellObject_12 rfl rfl (Or.inr ⟨_, rfl⟩) ?_
          refine pw_get (j := 19) C cl_X10 fl_X10_274 (by decide) rfl y0 rfl dX10_tellObject_13 ?_
          refine pw_stk (st' := [.int (iZ ((((false, X1) :: S1).length : Nat) : Int))]) rfl ?_
          refine pw_if_le (tgt := 229) C (by omega) dX10_tellObject_16 (by decide) (fun h_3001 => ?_) (fun h_3001 => ?_)
          · exfalso; omega
          · refine pw_aload_n (i := 0) C dX10_tellObject_19 rfl rfl (Or.inr ⟨_, rfl⟩) ?_
            refine pw_callV (As := []) (st := []) C (m_X10_isFull g l y0 (v := v1) rfl hv1.2) my_X10_isFull ml_X10_280 (pw_rec.of C y0 cl_X10.1) rfl ⟨Nat.le_of_ble_eq_true rfl, Nat.le_of_ble_eq_true rfl⟩ ⟨by (try dsimp only); omega, by (try dsimp only); omega⟩ rfl (Nat.le_of_ble_eq_true rfl) dX10_tellObject_20 ?_
            rintro _ _ ⟨rfl, rfl⟩
            refine pw_stk (st' := [.int (iZ (b2i (decide (v1 = 2000))))]) rfl ?_
            refine pw_if_neB (tgt := 229) C dX10_tellObject_23 (by decide) (fun h_3002 => ?_) (fun h_3002 => ?_)
            · have hv2 : v1 = 2000 := of_decide_eq_true h_3002
              exact pw_vret C hr dX10_tellObject_229 ⟨rfl, ⟨v1, _, fk, y0, by rw [← hq]; exact hO1.full (by omega) _, y19, g19⟩, hf1⟩
            · exfalso; exact absurd (show v1 = 2000 by omega) (of_decide_eq_false h_3002)
        | true =>
          have hll : ((true, X1) :: S1).length = S1.length + 1 := rfl
          refine pw_aload_n (i := 0) C dX10_tellObject_12 rfl rfl (Or.inr ⟨_, rfl⟩) ?_
          refine pw_get (j := 19) C cl_X10 fl_X10_274 (by decide) rfl y0 rfl dX10_tellObject_13 ?_
          refine pw_stk (st' := [.int (iZ ((((true, X1) :: S1).length : Nat) : Int))]) rfl ?_
          refine pw_if_le (tgt := 229) C (by omega) dX10_tellObject_16 (by decide) (fun h_3101 => ?_) (fun h_3101 => ?_)
          · exfalso; omega
          · refine pw_aload_n (i := 0) C dX10_tellObject_19 rfl rfl (Or.inr ⟨_, rfl⟩) ?_
            refine pw_callV (As := []) (st := []) C (m_X10_isFull g l y0 (v := v1) rfl hv1.2) my_X10_isFull ml_X10_280 (pw_rec.of C y0 cl_X10.1) rfl ⟨Nat.le_of_ble_eq_true rfl, Nat.le_of_ble_eq_true rfl⟩ ⟨by (try dsimp only); omega, by (try dsimp only); omega⟩ rfl (Nat.le_of_ble_eq_true rfl) dX10_tellObject_20 ?_
            rintro _ _ ⟨rfl, rfl⟩
            refine pw_stk (st' := [.int (iZ (b2i (decide (v1 = 2000))))]) rfl ?_
            refine pw_if_neB (tgt := 229) C dX10_tellObject_23 (by decide) (fun h_3102 => ?_) (fun h_3102 => ?_)
            · have hv2 : v1 = 2000 := of_decide_eq_true h_3102
              exact pw_vret C hr dX10_tellObject_229 ⟨rfl, ⟨v1, _, fk, y0, by rw [← hq]; exact hO1.full (by omega) _, y19, g19⟩, hf1⟩
            · exfalso; exact absurd (show v1 = 2000 by omega) (of_decide_eq_false h_3102)
    | succ kk ih =>
      intro w1 v1 L1 S fk hkk y0 hO1 y19 g19 hSt hq hsl hf1
      have hv1 := hO1.v
      cases S with
      | nil =>
        have y0 : w1 1000 = (b, some (mdE B (va_up (va_up x 15 v1) 19 0))) := y0
        refine pw_aload_n (i := 0) C dX10_tellObject_12 rfl rfl (Or.inr ⟨_, rfl⟩) ?_
        refine pw_get (j := 19) C cl_X10 fl_X10_274 (by decide) rfl y0 rfl dX10_tellObject_13 ?_
        refine pw_stk (st' := [.int (iZ 0)]) rfl ?_
        refine pw_if_le (tgt := 229) C (by omega) dX10_tellObject_16 (by decide) (fun h_11 => ?_) (fun h_11 => ?_)
        · exact pw_vret C hr dX10_tellObject_229 ⟨rfl, ⟨v1, _, fk, y0, by rw [← hq]; simp only [stx]; rw [List.append_nil]; exact hO1, y19, g19⟩, hf1⟩
        · exfalso; omega
      | cons a S1 =>
        obtain ⟨q, X1⟩ := a
        obtain ⟨⟨z, hz, hk1⟩, -⟩ := id hSt
        have hzr := Vl.rg hR hk1
        cases q with
        | false =>
          have hb : b2i false = 0 := rfl
          have hll : ((false, X1) :: S1).length = S1.length + 1 := rfl
          refine pw_aload_n (i := 0) C dX10_tellObject_12 rfl rfl (Or.inr ⟨_, rfl⟩) ?_
          refine pw_get (j := 19) C cl_X10 fl_X10_274 (by decide) rfl y0 rfl dX10_tellObject_13 ?_
          refine pw_stk (st' := [.int (iZ ((((false, X1) :: S1).length : Nat) : Int))]) rfl ?_
          refine pw_if_le (tgt := 229) C (by omega) dX10_tellObject_16 (by decide) (fun h_101 => ?_) (fun h_101 => ?_)
          · exfalso; omega
          · refine pw_aload_n (i := 0) C dX10_tellObject_19 rfl rfl (Or.inr ⟨_, rfl⟩) ?_
            refine pw_callV (As := []) (st := []) C (m_X10_isFull g l y0 (v := v1) rfl hv1.2) my_X10_isFull ml_X10_280 (pw_rec.of C y0 cl_X10.1) rfl ⟨Nat.le_of_ble_eq_true rfl, Nat.le_of_ble_eq_true rfl⟩ ⟨by (try dsimp only); omega, by (try dsimp only); omega⟩ rfl (Nat.le_of_ble_eq_true rfl) dX10_tellObject_20 ?_
            rintro _ _ ⟨rfl, rfl⟩
            refine pw_stk (st' := [.int (iZ (b2i (decide (v1 = 2000))))]) rfl ?_
            refine pw_if_neB (tgt := 229) C dX10_tellObject_23 (by decide) (fun h_102 => ?_) (fun h_102 => ?_)
            · have hv2 : v1 = 2000 := of_decide_eq_true h_102
              exact pw_vret C hr dX10_tellObject_229 ⟨rfl, ⟨v1, _, fk, y0, by rw [← hq]; exact hO1.full (by omega) _, y19, g19⟩, hf1⟩
            · have hv2 : ¬ v1 = 2000 := of_decide_eq_false h_102
              refine pw_aload_n (i := 0) C dX10_tellObject_26 rfl rfl (Or.inr ⟨_, rfl⟩) ?_
              refine pw_dup C dX10_tellObject_27 rfl ?_
              refine pw_get (j := 19) C cl_X10 fl_X10_274 (by decide) rfl y0 rfl dX10_tellObject_28 ?_
              refine pw_stk (st' := [.int (iZ ((((false, X1) :: S1).length : Nat) : Int)), .ref b]) rfl ?_
              refine pw_iconst C dX10_tellObject_31 ?_
              refine pw_isub C dX10_tellObject_32 ?_
              refine pw_put (j := 19) C cl_X10 fl_X10_274 (by decide) rfl rfl rfl rfl rfl y0 (Nat.le_of_ble_eq_true rfl) dX10_tellObject_33 (fun w_105 k_103 o_104 => ?_)
              have k_106 : w_105 1000 = (b, some (mdE B (va_up (va_up (va_up x 15 v1) 19 ((((false, X1) :: S1).length : Nat) : Int)) 19 (((((false, X1) :: S1).length : Nat) : Int) - 1)))) := k_103
              refine pw_aload_n (i := 0) C dX10_tellObject_36 rfl rfl (Or.inr ⟨_, rfl⟩) ?_
              refine pw_get (j := 18) C cl_X10 fl_X10_52 (by decide) rfl k_106 rfl dX10_tellObject_37 ?_
              refine pw_stk (st' := [.ref (B 18)]) rfl ?_
              refine pw_aload_n (i := 0) C dX10_tellObject_40 rfl rfl (Or.inr ⟨_, rfl⟩) ?_
              refine pw_get (j := 19) C cl_X10 fl_X10_274 (by decide) rfl k_106 rfl dX10_tellObject_41 ?_
              refine pw_stk (st' := [.int (iZ (((((false, X1) :: S1).length : Nat) : Int) - 1)), .ref (B 18)]) rfl ?_
              have c_107 := (o_104 1019 (by omega)).trans y19
              refine pw_iald C c_107 ⟨by omega, by omega, by omega⟩ dX10_tellObject_44 ?_
              refine pw_stk (st' := [.int (iZ (2 * z + b2i false))]) (by rw [show (((((false, X1) :: S1).length : Nat) : Int) - 1) = ((S1.length : Nat) : Int) by omega, hz]) ?_
              refine pw_istore_n (i := 2) (lv' := [(0, .ref b), (1, .int (iZ o)), (2, .int (iZ (2 * z + b2i false)))]) C dX10_tellObject_45 rfl (by decide) rfl ?_
              refine pw_iload_n (i := 2) C dX10_tellObject_46 rfl rfl ?_
              refine pw_iconst C dX10_tellObject_47 ?_
              refine pw_idiv C ⟨by omega, by omega⟩ ⟨by omega, by omega⟩ dX10_tellObject_48 ?_
              refine pw_stk (st' := [.int (iZ z)]) (by rw [show (2 * z + b2i false) / 2 = z by omega]) ?_
              refine pw_istore_n (i := 3) (lv' := [(0, .ref b), (1, .int (iZ o)), (2, .int (iZ (2 * z + b2i false))), (3, .int (iZ z))]) C dX10_tellObject_49 rfl (by decide) rfl ?_
              refine pw_iload_n (i := 2) C dX10_tellObject_50 rfl rfl ?_
              refine pw_iconst C dX10_tellObject_51 ?_
              refine pw_irem C ⟨by omega, by omega⟩ ⟨by omega, by omega⟩ dX10_tellObject_52 ?_
              refine pw_stk (st' := [.int (iZ 0)]) (by rw [show (2 * z + b2i false) % 2 = 0 by omega]) ?_
              refine pw_if_ne (tgt := 141) C (by omega) dX10_tellObject_53 (by decide) (fun h_108 => ?_) (fun h_108 => ?_)
              · exfalso; omega
              · refine pw_aload_n (i := 0) C dX10_tellObject_56 rfl rfl (Or.inr ⟨_, rfl⟩) ?_
                refine pw_iload_n (i := 3) C dX10_tellObject_57 rfl rfl ?_
                have R_109 := hR.same (w' := w_105) (fun k hk => (o_104 k (by omega)).trans (hf1 k (by omega)))
                refine pw_callV (As := [.int (iZ z)]) (st := []) C (m_X10_isPair g l k_106 R_109 h7 h10 hk1) my_X10_isPair ml_X10_195 (pw_rec.of C k_106 cl_X10.1) rfl ⟨Nat.le_of_ble_eq_true rfl, Nat.le_of_ble_eq_true rfl⟩ ⟨by (try dsimp only); omega, by (try dsimp only); omega⟩ rfl (Nat.le_of_ble_eq_true rfl) dX10_tellObject_58 ?_
                rintro _ _ ⟨rfl, rfl⟩
                refine pw_stk (st' := [.int (iZ (b2i (obP X1)))]) rfl ?_
                refine pw_if_neB (tgt := 72) C dX10_tellObject_61 (by decide) (fun h_110 => ?_) (fun h_110 => ?_)
                · have hp := h_110
                  have hcc := (hln z X1 hk1).1 hp
                  have hrr1 := Vl.rg hR hcc.1
                  have hrr2 := Vl.rg hR hcc.2
                  refine pw_aload_n (i := 0) C dX10_tellObject_72 rfl rfl (Or.inr ⟨_, rfl⟩) ?_
                  refine pw_iload_n (i := 3) C dX10_tellObject_73 rfl rfl ?_
                  refine pw_callV (As := [.int (iZ z)]) (st := []) C (m_X10_isQuoted g l k_106 R_109 h7 h10 hK hk1) my_X10_isQuoted ml_X10_286 (pw_rec.of C k_106 cl_X10.1) rfl ⟨Nat.le_of_ble_eq_true rfl, Nat.le_of_ble_eq_true rfl⟩ ⟨by (try dsimp only); omega, by (try dsimp only); omega⟩ rfl (Nat.le_of_ble_eq_true rfl) dX10_tellObject_74 ?_
                  rintro _ _ ⟨rfl, rfl⟩
                  refine pw_stk (st' := [.int (iZ (b2i (obQ X1)))]) rfl ?_
                  refine pw_if_eqB (tgt := 106) C dX10_tellObject_77 (by decide) (fun h_111 => ?_) (fun h_111 => ?_)
                  · have hqq := h_111
                    refine pw_aload_n (i := 0) C dX10_tellObject_106 rfl rfl (Or.inr ⟨_, rfl⟩) ?_
                    refine pw_bipush C dX10_tellObject_107 (by decide) ?_
                    have O_117 := hO1.same (w' := w_105) ((o_104 1015 (by omega)))
                    have O_115v := O_117.v
                    refine pw_callV (As := [.int (iZ 40)]) (st := []) C (m_X10_tellLetter g l k_106 (v := v1) rfl O_117 (c0 := 40) (by omega)) my_X10_tellLetter ml_X10_271 (pw_rec.of C k_106 cl_X10.1) rfl ⟨Nat.le_of_ble_eq_true rfl, Nat.le_of_ble_eq_true rfl⟩ ⟨by (try dsimp only); omega, by (try dsimp only); omega⟩ rfl (Nat.le_of_ble_eq_true rfl) dX10_tellObject_109 ?_
                    rintro _ w_113 ⟨rfl, ⟨v_112, e_114, O_115⟩, o_116⟩
                    refine pw_stk (st' := []) rfl ?_
                    refine pw_aload_n (i := 0) C dX10_tellObject_112 rfl rfl (Or.inr ⟨_, rfl⟩) ?_
                    refine pw_iconst C dX10_tellObject_113 ?_
                    refine pw_aload_n (i := 0) C dX10_tellObject_114 rfl rfl (Or.inr ⟨_, rfl⟩) ?_
                    refine pw_get (j := 1) C cl_X10 fl_X10_14 (by decide) rfl e_114 rfl dX10_tellObject_115 ?_
                    refine pw_stk (st' := [.ref (B 1), .int (iZ 2), .ref b]) rfl ?_
                    refine pw_iload_n (i := 3) C dX10_tellObject_118 rfl rfl ?_
                    have c_118 := ((o_116 1002 (by omega)).trans ((o_104 1002 (by omega)).trans (hf1 1002 (by omega)))).trans l1
                    have g_119 := m1 z
                    refine pw_iald C c_118 ⟨by omega, by omega, by omega⟩ dX10_tellObject_119 ?_
                    refine pw_imul C dX10_tellObject_120 ?_
                    refine pw_iconst C dX10_tellObject_121 ?_
                    refine pw_iadd C dX10_tellObject_122 ?_
                    have c_120 := (o_116 1019 (by omega)).trans c_107
                    refine pw_callV (As := [.int (iZ ((2 * fR z) + 1))]) (st := []) C (m_X10_later g l e_114 (v := (((((false, X1) :: S1).length : Nat) : Int) - 1)) rfl c_120 g19 (c0 := ((2 * fR z) + 1)) (by omega)) my_X10_later ml_X10_277 (pw_rec.of C e_114 cl_X10.1) rfl ⟨Nat.le_of_ble_eq_true rfl, Nat.le_of_ble_eq_true rfl⟩ ⟨by (try dsimp only); omega, by (try dsimp only); omega⟩ rfl (Nat.le_of_ble_eq_true rfl) dX10_tellObject_123 ?_
                    rintro _ w_121 ⟨rfl, e_122, f_123, o_124⟩
                    refine pw_stk (st' := []) rfl ?_
                    refine pw_aload_n (i := 0) C dX10_tellObject_126 rfl rfl (Or.inr ⟨_, rfl⟩) ?_
                    refine pw_iconst C dX10_tellObject_127 ?_
                    refine pw_aload_n (i := 0) C dX10_tellObject_128 rfl rfl (Or.inr ⟨_, rfl⟩) ?_
                    refine pw_get (j := 0) C cl_X10 fl_X10_8 (by decide) rfl e_122 rfl dX10_tellObject_129 ?_
                    refine pw_stk (st' := [.ref (B 0), .int (iZ 2), .ref b]) rfl ?_
                    refine pw_iload_n (i := 3) C dX10_tellObject_132 rfl rfl ?_
                    have c_125 := ((o_124 1001 (by omega)).trans ((o_116 1001 (by omega)).trans ((o_104 1001 (by omega)).trans (hf1 1001 (by omega))))).trans l0
                    have g_126 := m0 z
                    refine pw_iald C c_125 ⟨by omega, by omega, by omega⟩ dX10_tellObject_133 ?_
                    refine pw_imul C dX10_tellObject_134 ?_
                    refine pw_callV (As := [.int (iZ (2 * fL z))]) (st := []) C (m_X10_later g l e_122 (v := ((((((false, X1) :: S1).length : Nat) : Int) - 1) + 1)) rfl f_123 (upz_inI g19 (by omega)) (c0 := (2 * fL z)) (by omega)) my_X10_later ml_X10_277 (pw_rec.of C e_122 cl_X10.1) rfl ⟨Nat.le_of_ble_eq_true rfl, Nat.le_of_ble_eq_true rfl⟩ ⟨by (try dsimp only); omega, by (try dsimp only); omega⟩ rfl (Nat.le_of_ble_eq_true rfl) dX10_tellObject_135 ?_
                    rintro _ w_127 ⟨rfl, e_128, f_129, o_130⟩
                    refine pw_stk (st' := []) rfl ?_
                    refine pw_goto (tgt := 226) C dX10_tellObject_138 (by decide) ?_
                    refine pw_goto (tgt := 12) C dX10_tellObject_226 (by decide) ?_
                    refine pw_sub [0, 1] rfl ?_
                    have hLe : (L1 ++ [40]) = L1 ++ [40] := rfl
                    have O_131 := O_115.same (w' := w_127) ((o_130 1015 (by omega)).trans (o_124 1015 (by omega)))
                    have hOn := O_131
                    rw [hLe] at hOn
                    have hvn := hOn.v
                    have hgr := szF_grow (L := L1) (M := [40]) (by simp) (by omega)
                    refine ih w_127 v_112 (L1 ++ [40]) ((false, obCar X1) :: (true, obCdr X1) :: S1) (upz (upz fk (((((false, X1) :: S1).length : Nat) : Int) - 1) ((2 * fR z) + 1)) ((((((false, X1) :: S1).length : Nat) : Int) - 1) + 1) (2 * fL z)) (by omega) ?_ hOn f_129 (upz_inI (upz_inI g19 (by omega)) (by omega)) ?_ ?_ ?_ (fun k hk => (o_130 k (by omega)).trans ((o_124 k (by omega)).trans ((o_116 k (by omega)).trans ((o_104 k (by omega)).trans (hf1 k (by omega))))))
                    · rw [e_128, show (((((false, obCar X1) :: (true, obCdr X1) :: S1) : List (Bool × Ob)).length : Nat) : Int) = (((((((false, X1) :: S1).length : Nat) : Int) - 1) + 1) + 1) by simp only [List.length_cons]; omega]; rfl
                    · have q0 : ((((false, X1) :: S1).length : Nat) : Int) - 1 = ((S1.length : Nat) : Int) := by omega
                      have q1 : ((((false, X1) :: S1).length : Nat) : Int) - 1 + 1 = (((S1.length + 1 : Nat)) : Int) := by omega
                      exact ⟨⟨_, by rw [q1]; show upz _ _ _ (((S1.length + 1 : Nat)) : Int) = _; rw [upz_self]; show _ = 2 * fL z + 0; omega, hcc.1⟩, ⟨_, by rw [upz_ne _ _ (by omega), q0, upz_self]; rfl, hcc.2⟩, StM.up (StM.up hSt.2 (by omega)) (by omega)⟩
                    · rw [← hq, stx_f X1 S1]; rw [(otm_p hp).2.1 hqq]; simp [stx_f, stx_t]
                    · simp only [List.length_cons] at hsl ⊢; omega
                  · have hqq := h_111
                    have hp2 : obP (obCdr X1) = true := by unfold obQ at hqq; simp only [Bool.and_eq_true] at hqq; exact hqq.2.1
                    have hc2 := (hln _ _ hcc.2).1 hp2
                    have hrr3 := Vl.rg hR hc2.1
                    refine pw_aload_n (i := 0) C dX10_tellObject_80 rfl rfl (Or.inr ⟨_, rfl⟩) ?_
                    refine pw_bipush C dX10_tellObject_81 (by decide) ?_
                    have O_137 := hO1.same (w' := w_105) ((o_104 1015 (by omega)))
                    have O_135v := O_137.v
                    refine pw_callV (As := [.int (iZ 39)]) (st := []) C (m_X10_tellLetter g l k_106 (v := v1) rfl O_137 (c0 := 39) (by omega)) my_X10_tellLetter ml_X10_271 (pw_rec.of C k_106 cl_X10.1) rfl ⟨Nat.le_of_ble_eq_true rfl, Nat.le_of_ble_eq_true rfl⟩ ⟨by (try dsimp only); omega, by (try dsimp only); omega⟩ rfl (Nat.le_of_ble_eq_true rfl) dX10_tellObject_83 ?_
                    rintro _ w_133 ⟨rfl, ⟨v_132, e_134, O_135⟩, o_136⟩
                    refine pw_stk (st' := []) rfl ?_
                    refine pw_aload_n (i := 0) C dX10_tellObject_86 rfl rfl (Or.inr ⟨_, rfl⟩) ?_
                    refine pw_iconst C dX10_tellObject_87 ?_
                    refine pw_aload_n (i := 0) C dX10_tellObject_88 rfl rfl (Or.inr ⟨_, rfl⟩) ?_
                    refine pw_get (j := 0) C cl_X10 fl_X10_8 (by decide) rfl e_134 rfl dX10_tellObject_89 ?_
                    refine pw_stk (st' := [.ref (B 0), .int (iZ 2), .ref b]) rfl ?_
                    refine pw_aload_n (i := 0) C dX10_tellObject_92 rfl rfl (Or.inr ⟨_, rfl⟩) ?_
                    refine pw_get (j := 1) C cl_X10 fl_X10_14 (by decide) rfl e_134 rfl dX10_tellObject_93 ?_
                    refine pw_stk (st' := [.ref (B 1), .ref (B 0), .int (iZ 2), .ref b]) rfl ?_
                    refine pw_iload_n (i := 3) C dX10_tellObject_96 rfl rfl ?_
                    have c_138 := ((o_136 1002 (by omega)).trans ((o_104 1002 (by omega)).trans (hf1 1002 (by omega)))).trans l1
                    have g_139 := m1 z
                    refine pw_iald C c_138 ⟨by omega, by omega, by omega⟩ dX10_tellObject_97 ?_
                    have c_140 := ((o_136 1001 (by omega)).trans ((o_104 1001 (by omega)).trans (hf1 1001 (by omega)))).trans l0
                    have g_141 := m0 (fR z)
                    refine pw_iald C c_140 ⟨by omega, by omega, by omega⟩ dX10_tellObject_98 ?_
                    refine pw_imul C dX10_tellObject_99 ?_
                    have c_142 := (o_136 1019 (by omega)).trans c_107
                    refine pw_callV (As := [.int (iZ (2 * fL (fR z)))]) (st := []) C (m_X10_later g l e_134 (v := (((((false, X1) :: S1).length : Nat) : Int) - 1)) rfl c_142 g19 (c0 := (2 * fL (fR z))) (by omega)) my_X10_later ml_X10_277 (pw_rec.of C e_134 cl_X10.1) rfl ⟨Nat.le_of_ble_eq_true rfl, Nat.le_of_ble_eq_true rfl⟩ ⟨by (try dsimp only); omega, by (try dsimp only); omega⟩ rfl (Nat.le_of_ble_eq_true rfl) dX10_tellObject_100 ?_
                    rintro _ w_143 ⟨rfl, e_144, f_145, o_146⟩
                    refine pw_stk (st' := []) rfl ?_
                    refine pw_goto (tgt := 226) C dX10_tellObject_103 (by decide) ?_
                    refine pw_goto (tgt := 12) C dX10_tellObject_226 (by decide) ?_
                    refine pw_sub [0, 1] rfl ?_
                    have hLe : (L1 ++ [39]) = L1 ++ [39] := rfl
                    have O_147 := O_135.same (w' := w_143) ((o_146 1015 (by omega)))
                    have hOn := O_147
                    rw [hLe] at hOn
                    have hvn := hOn.v
                    have hgr := szF_grow (L := L1) (M := [39]) (by simp) (by omega)
                    refine ih w_143 v_132 (L1 ++ [39]) ((false, obCar (obCdr X1)) :: S1) (upz fk (((((false, X1) :: S1).length : Nat) : Int) - 1) (2 * fL (fR z))) (by omega) ?_ hOn f_145 (upz_inI g19 (by omega)) ?_ ?_ ?_ (fun k hk => (o_146 k (by omega)).trans ((o_136 k (by omega)).trans ((o_104 k (by omega)).trans (hf1 k (by omega)))))
                    · rw [e_144, show (((((false, obCar (obCdr X1)) :: S1) : List (Bool × Ob)).length : Nat) : Int) = ((((((false, X1) :: S1).length : Nat) : Int) - 1) + 1) by simp only [List.length_cons]; omega]; rfl
                    · have q0 : ((((false, X1) :: S1).length : Nat) : Int) - 1 = ((S1.length : Nat) : Int) := by omega
                      have q1 : ((((false, X1) :: S1).length : Nat) : Int) - 1 + 1 = (((S1.length + 1 : Nat)) : Int) := by omega
                      exact ⟨⟨_, by rw [q0, upz_self]; show _ = 2 * fL (fR z) + 0; omega, hc2.1⟩, StM.up hSt.2 (by omega)⟩
                    · rw [← hq, stx_f X1 S1]; rw [(otm_p hp).2.2 hqq]; simp [stx_f, stx_t]
                    · simp only [List.length_cons] at hsl ⊢; omega
                · have hnp := h_110
                  have hane := atx_ne hR hk1 hnp
                  refine pw_aload_n (i := 0) C dX10_tellObject_64 rfl rfl (Or.inr ⟨_, rfl⟩) ?_
                  refine pw_iload_n (i := 3) C dX10_tellObject_65 rfl rfl ?_
                  have O_148 := hO1.same (w' := w_105) ((o_104 1015 (by omega)))
                  have O_152v := O_148.v
                  refine pw_callV (As := [.int (iZ z)]) (st := []) C (m_X10_tellAtom g l k_106 R_109 h7 h10 hK (v := v1) hk1 hnp rfl O_148) my_X10_tellAtom ml_X10_283 (pw_rec.of C k_106 cl_X10.1) rfl ⟨Nat.le_of_ble_eq_true rfl, Nat.le_of_ble_eq_true rfl⟩ ⟨by (try dsimp only); omega, by (try dsimp only); omega⟩ rfl (Nat.le_of_ble_eq_true rfl) dX10_tellObject_66 ?_
                  rintro _ w_150 ⟨rfl, ⟨v_149, e_151, O_152⟩, o_153⟩
                  refine pw_stk (st' := []) rfl ?_
                  refine pw_goto (tgt := 226) C dX10_tellObject_69 (by decide) ?_
                  refine pw_goto (tgt := 12) C dX10_tellObject_226 (by decide) ?_
                  have c_154 := (o_153 1019 (by omega)).trans c_107
                  refine pw_sub [0, 1] rfl ?_
                  have hLe : (L1 ++ atx X1) = L1 ++ atx X1 := rfl
                  have hOn := O_152
                  rw [hLe] at hOn
                  have hvn := hOn.v
                  have hgr := szF_grow (L := L1) (M := atx X1) (by exact hane) (by omega)
                  refine ih w_150 v_149 (L1 ++ atx X1) (S1) fk (by omega) ?_ hOn c_154 g19 ?_ ?_ ?_ (fun k hk => (o_153 k (by omega)).trans ((o_104 k (by omega)).trans (hf1 k (by omega))))
                  · rw [e_151, show ((((S1) : List (Bool × Ob)).length : Nat) : Int) = (((((false, X1) :: S1).length : Nat) : Int) - 1) by simp only [List.length_cons]; omega]; rfl
                  · exact hSt.2
                  · rw [← hq, stx_f X1 S1]; rw [(otm_np hnp).1]; simp [stx_f, stx_t]
                  · simp only [List.length_cons] at hsl ⊢; omega
        | true =>
          have hb : b2i true = 1 := rfl
          have hll : ((true, X1) :: S1).length = S1.length + 1 := rfl
          refine pw_aload_n (i := 0) C dX10_tellObject_12 rfl rfl (Or.inr ⟨_, rfl⟩) ?_
          refine pw_get (j := 19) C cl_X10 fl_X10_274 (by decide) rfl y0 rfl dX10_tellObject_13 ?_
          refine pw_stk (st' := [.int (iZ ((((true, X1) :: S1).length : Nat) : Int))]) rfl ?_
          refine pw_if_le (tgt := 229) C (by omega) dX10_tellObject_16 (by decide) (fun h_1001 => ?_) (fun h_1001 => ?_)
          · exfalso; omega
          · refine pw_aload_n (i := 0) C dX10_tellObject_19 rfl rfl (Or.inr ⟨_, rfl⟩) ?_
            refine pw_callV (As := []) (st := []) C (m_X10_isFull g l y0 (v := v1) rfl hv1.2) my_X10_isFull ml_X10_280 (pw_rec.of C y0 cl_X10.1) rfl ⟨Nat.le_of_ble_eq_true rfl, Nat.le_of_ble_eq_true rfl⟩ ⟨by (try dsimp only); omega, by (try dsimp only); omega⟩ rfl (Nat.le_of_ble_eq_true rfl) dX10_tellObject_20 ?_
            rintro _ _ ⟨rfl, rfl⟩
            refine pw_stk (st' := [.int (iZ (b2i (decide (v1 = 2000))))]) rfl ?_
            refine pw_if_neB (tgt := 229) C dX10_tellObject_23 (by decide) (fun h_1002 => ?_) (fun h_1002 => ?_)
            · have hv2 : v1 = 2000 := of_decide_eq_true h_1002
              exact pw_vret C hr dX10_tellObject_229 ⟨rfl, ⟨v1, _, fk, y0, by rw [← hq]; exact hO1.full (by omega) _, y19, g19⟩, hf1⟩
            · have hv2 : ¬ v1 = 2000 := of_decide_eq_false h_1002
              refine pw_aload_n (i := 0) C dX10_tellObject_26 rfl rfl (Or.inr ⟨_, rfl⟩) ?_
              refine pw_dup C dX10_tellObject_27 rfl ?_
              refine pw_get (j := 19) C cl_X10 fl_X10_274 (by decide) rfl y0 rfl dX10_tellObject_28 ?_
              refine pw_stk (st' := [.int (iZ ((((true, X1) :: S1).length : Nat) : Int)), .ref b]) rfl ?_
              refine pw_iconst C dX10_tellObject_31 ?_
              refine pw_isub C dX10_tellObject_32 ?_
              refine pw_put (j := 19) C cl_X10 fl_X10_274 (by decide) rfl rfl rfl rfl rfl y0 (Nat.le_of_ble_eq_true rfl) dX10_tellObject_33 (fun w_1005 k_1003 o_1004 => ?_)
              have k_1006 : w_1005 1000 = (b, some (mdE B (va_up (va_up (va_up x 15 v1) 19 ((((true, X1) :: S1).length : Nat) : Int)) 19 (((((true, X1) :: S1).length : Nat) : Int) - 1)))) := k_1003
              refine pw_aload_n (i := 0) C dX10_tellObject_36 rfl rfl (Or.inr ⟨_, rfl⟩) ?_
              refine pw_get (j := 18) C cl_X10 fl_X10_52 (by decide) rfl k_1006 rfl dX10_tellObject_37 ?_
              refine pw_stk (st' := [.ref (B 18)]) rfl ?_
              refine pw_aload_n (i := 0) C dX10_tellObject_40 rfl rfl (Or.inr ⟨_, rfl⟩) ?_
              refine pw_get (j := 19) C cl_X10 fl_X10_274 (by decide) rfl k_1006 rfl dX10_tellObject_41 ?_
              refine pw_stk (st' := [.int (iZ (((((true, X1) :: S1).length : Nat) : Int) - 1)), .ref (B 18)]) rfl ?_
              have c_1007 := (o_1004 1019 (by omega)).trans y19
              refine pw_iald C c_1007 ⟨by omega, by omega, by omega⟩ dX10_tellObject_44 ?_
              refine pw_stk (st' := [.int (iZ (2 * z + b2i true))]) (by rw [show (((((true, X1) :: S1).length : Nat) : Int) - 1) = ((S1.length : Nat) : Int) by omega, hz]) ?_
              refine pw_istore_n (i := 2) (lv' := [(0, .ref b), (1, .int (iZ o)), (2, .int (iZ (2 * z + b2i true)))]) C dX10_tellObject_45 rfl (by decide) rfl ?_
              refine pw_iload_n (i := 2) C dX10_tellObject_46 rfl rfl ?_
              refine pw_iconst C dX10_tellObject_47 ?_
              refine pw_idiv C ⟨by omega, by omega⟩ ⟨by omega, by omega⟩ dX10_tellObject_48 ?_
              refine pw_stk (st' := [.int (iZ z)]) (by rw [show (2 * z + b2i true) / 2 = z by omega]) ?_
              refine pw_istore_n (i := 3) (lv' := [(0, .ref b), (1, .int (iZ o)), (2, .int (iZ (2 * z + b2i true))), (3, .int (iZ z))]) C dX10_tellObject_49 rfl (by decide) rfl ?_
              refine pw_iload_n (i := 2) C dX10_tellObject_50 rfl rfl ?_
              refine pw_iconst C dX10_tellObject_51 ?_
              refine pw_irem C ⟨by omega, by omega⟩ ⟨by omega, by omega⟩ dX10_tellObject_52 ?_
              refine pw_stk (st' := [.int (iZ 1)]) (by rw [show (2 * z + b2i true) % 2 = 1 by omega]) ?_
              refine pw_if_ne (tgt := 141) C (by omega) dX10_tellObject_53 (by decide) (fun h_1008 => ?_) (fun h_1008 => ?_)
              · refine pw_iload_n (i := 3) C dX10_tellObject_141 rfl rfl ?_
                refine pw_if_ne (tgt := 154) C (by omega) dX10_tellObject_142 (by decide) (fun h_1009 => ?_) (fun h_1009 => ?_)
                · have hXn : ¬ X1 = oNil := fun e => absurd ((RS.inj hR hk1 hK.nil).mpr e) (by omega)
                  refine pw_aload_n (i := 0) C dX10_tellObject_154 rfl rfl (Or.inr ⟨_, rfl⟩) ?_
                  refine pw_iload_n (i := 3) C dX10_tellObject_155 rfl rfl ?_
                  have R_1010 := hR.same (w' := w_1005) (fun k hk => (o_1004 k (by omega)).trans (hf1 k (by omega)))
                  refine pw_callV (As := [.int (iZ z)]) (st := []) C (m_X10_isPair g l k_1006 R_1010 h7 h10 hk1) my_X10_isPair ml_X10_195 (pw_rec.of C k_1006 cl_X10.1) rfl ⟨Nat.le_of_ble_eq_true rfl, Nat.le_of_ble_eq_true rfl⟩ ⟨by (try dsimp only); omega, by (try dsimp only); omega⟩ rfl (Nat.le_of_ble_eq_true rfl) dX10_tellObject_156 ?_
                  rintro _ _ ⟨rfl, rfl⟩
                  refine pw_stk (st' := [.int (iZ (b2i (obP X1)))]) rfl ?_
                  refine pw_if_eqB (tgt := 197) C dX10_tellObject_159 (by decide) (fun h_1011 => ?_) (fun h_1011 => ?_)
                  · have hnp := h_1011
                    have hane := atx_ne hR hk1 hnp
                    refine pw_aload_n (i := 0) C dX10_tellObject_197 rfl rfl (Or.inr ⟨_, rfl⟩) ?_
                    refine pw_bipush C dX10_tellObject_198 (by decide) ?_
                    have O_1017 := hO1.same (w' := w_1005) ((o_1004 1015 (by omega)))
                    have O_1015v := O_1017.v
                    refine pw_callV (As := [.int (iZ 32)]) (st := []) C (m_X10_tellLetter g l k_1006 (v := v1) rfl O_1017 (c0 := 32) (by omega)) my_X10_tellLetter ml_X10_271 (pw_rec.of C k_1006 cl_X10.1) rfl ⟨Nat.le_of_ble_eq_true rfl, Nat.le_of_ble_eq_true rfl⟩ ⟨by (try dsimp only); omega, by (try dsimp only); omega⟩ rfl (Nat.le_of_ble_eq_true rfl) dX10_tellObject_200 ?_
                    rintro _ w_1013 ⟨rfl, ⟨v_1012, e_1014, O_1015⟩, o_1016⟩
                    refine pw_stk (st' := []) rfl ?_
                    refine pw_aload_n (i := 0) C dX10_tellObject_203 rfl rfl (Or.inr ⟨_, rfl⟩) ?_
                    refine pw_bipush C dX10_tellObject_204 (by decide) ?_
                    have O_1021v := O_1015.v
                    refine pw_callV (As := [.int (iZ 46)]) (st := []) C (m_X10_tellLetter g l e_1014 (v := v_1012) rfl O_1015 (c0 := 46) (by omega)) my_X10_tellLetter ml_X10_271 (pw_rec.of C e_1014 cl_X10.1) rfl ⟨Nat.le_of_ble_eq_true rfl, Nat.le_of_ble_eq_true rfl⟩ ⟨by (try dsimp only); omega, by (try dsimp only); omega⟩ rfl (Nat.le_of_ble_eq_true rfl) dX10_tellObject_206 ?_
                    rintro _ w_1019 ⟨rfl, ⟨v_1018, e_1020, O_1021⟩, o_1022⟩
                    refine pw_stk (st' := []) rfl ?_
                    refine pw_aload_n (i := 0) C dX10_tellObject_209 rfl rfl (Or.inr ⟨_, rfl⟩) ?_
                    refine pw_bipush C dX10_tellObject_210 (by decide) ?_
                    have O_1026v := O_1021.v
                    refine pw_callV (As := [.int (iZ 32)]) (st := []) C (m_X10_tellLetter g l e_1020 (v := v_1018) rfl O_1021 (c0 := 32) (by omega)) my_X10_tellLetter ml_X10_271 (pw_rec.of C e_1020 cl_X10.1) rfl ⟨Nat.le_of_ble_eq_true rfl, Nat.le_of_ble_eq_true rfl⟩ ⟨by (try dsimp only); omega, by (try dsimp only); omega⟩ rfl (Nat.le_of_ble_eq_true rfl) dX10_tellObject_212 ?_
                    rintro _ w_1024 ⟨rfl, ⟨v_1023, e_1025, O_1026⟩, o_1027⟩
                    refine pw_stk (st' := []) rfl ?_
                    refine pw_aload_n (i := 0) C dX10_tellObject_215 rfl rfl (Or.inr ⟨_, rfl⟩) ?_
                    refine pw_iload_n (i := 3) C dX10_tellObject_216 rfl rfl ?_
                    have R_1028 := R_1010.same (w' := w_1024) (fun k hk => (o_1027 k (by omega)).trans ((o_1022 k (by omega)).trans (o_1016 k (by omega))))
                    have O_1032v := O_1026.v
                    refine pw_callV (As := [.int (iZ z)]) (st := []) C (m_X10_tellAtom g l e_1025 R_1028 h7 h10 hK (v := v_1023) hk1 hnp rfl O_1026) my_X10_tellAtom ml_X10_283 (pw_rec.of C e_1025 cl_X10.1) rfl ⟨Nat.le_of_ble_eq_true rfl, Nat.le_of_ble_eq_true rfl⟩ ⟨by (try dsimp only); omega, by (try dsimp only); omega⟩ rfl (Nat.le_of_ble_eq_true rfl) dX10_tellObject_217 ?_
                    rintro _ w_1030 ⟨rfl, ⟨v_1029, e_1031, O_1032⟩, o_1033⟩
                    refine pw_stk (st' := []) rfl ?_
                    refine pw_aload_n (i := 0) C dX10_tellObject_220 rfl rfl (Or.inr ⟨_, rfl⟩) ?_
                    refine pw_bipush C dX10_tellObject_221 (by decide) ?_
                    have O_1037v := O_1032.v
                    refine pw_callV (As := [.int (iZ 41)]) (st := []) C (m_X10_tellLetter g l e_1031 (v := v_1029) rfl O_1032 (c0 := 41) (by omega)) my_X10_tellLetter ml_X10_271 (pw_rec.of C e_1031 cl_X10.1) rfl ⟨Nat.le_of_ble_eq_true rfl, Nat.le_of_ble_eq_true rfl⟩ ⟨by (try dsimp only); omega, by (try dsimp only); omega⟩ rfl (Nat.le_of_ble_eq_true rfl) dX10_tellObject_223 ?_
                    rintro _ w_1035 ⟨rfl, ⟨v_1034, e_1036, O_1037⟩, o_1038⟩
                    refine pw_stk (st' := []) rfl ?_
                    refine pw_goto (tgt := 12) C dX10_tellObject_226 (by decide) ?_
                    have c_1039 := ((o_1038 1019 (by omega)).trans ((o_1033 1019 (by omega)).trans ((o_1027 1019 (by omega)).trans ((o_1022 1019 (by omega)).trans (o_1016 1019 (by omega)))))).trans c_1007
                    refine pw_sub [0, 1] rfl ?_
                    have hLe : (((((L1 ++ [32]) ++ [46]) ++ [32]) ++ atx X1) ++ [41]) = L1 ++ ([32, 46, 32] ++ atx X1 ++ [41]) := by simp
                    have hOn := O_1037
                    rw [hLe] at hOn
                    have hvn := hOn.v
                    have hgr := szF_grow (L := L1) (M := ([32, 46, 32] ++ atx X1 ++ [41])) (by simp) (by omega)
                    refine ih w_1035 v_1034 (L1 ++ ([32, 46, 32] ++ atx X1 ++ [41])) (S1) fk (by omega) ?_ hOn c_1039 g19 ?_ ?_ ?_ (fun k hk => (o_1038 k (by omega)).trans ((o_1033 k (by omega)).trans ((o_1027 k (by omega)).trans ((o_1022 k (by omega)).trans ((o_1016 k (by omega)).trans ((o_1004 k (by omega)).trans (hf1 k (by omega))))))))
                    · rw [e_1036, show ((((S1) : List (Bool × Ob)).length : Nat) : Int) = (((((true, X1) :: S1).length : Nat) : Int) - 1) by simp only [List.length_cons]; omega]; rfl
                    · exact hSt.2
                    · rw [← hq, stx_t X1 S1]; rw [(otm_np hnp).2]; rw [if_neg hXn]; simp [stx_f, stx_t]
                    · simp only [List.length_cons] at hsl ⊢; omega
                  · have hp := h_1011
                    have hcc := (hln z X1 hk1).1 hp
                    have hrr1 := Vl.rg hR hcc.1
                    have hrr2 := Vl.rg hR hcc.2
                    refine pw_aload_n (i := 0) C dX10_tellObject_162 rfl rfl (Or.inr ⟨_, rfl⟩) ?_
                    refine pw_bipush C dX10_tellObject_163 (by decide) ?_
                    have O_1045 := hO1.same (w' := w_1005) ((o_1004 1015 (by omega)))
                    have O_1043v := O_1045.v
                    refine pw_callV (As := [.int (iZ 32)]) (st := []) C (m_X10_tellLetter g l k_1006 (v := v1) rfl O_1045 (c0 := 32) (by omega)) my_X10_tellLetter ml_X10_271 (pw_rec.of C k_1006 cl_X10.1) rfl ⟨Nat.le_of_ble_eq_true rfl, Nat.le_of_ble_eq_true rfl⟩ ⟨by (try dsimp only); omega, by (try dsimp only); omega⟩ rfl (Nat.le_of_ble_eq_true rfl) dX10_tellObject_165 ?_
                    rintro _ w_1041 ⟨rfl, ⟨v_1040, e_1042, O_1043⟩, o_1044⟩
                    refine pw_stk (st' := []) rfl ?_
                    refine pw_aload_n (i := 0) C dX10_tellObject_168 rfl rfl (Or.inr ⟨_, rfl⟩) ?_
                    refine pw_iconst C dX10_tellObject_169 ?_
                    refine pw_aload_n (i := 0) C dX10_tellObject_170 rfl rfl (Or.inr ⟨_, rfl⟩) ?_
                    refine pw_get (j := 1) C cl_X10 fl_X10_14 (by decide) rfl e_1042 rfl dX10_tellObject_171 ?_
                    refine pw_stk (st' := [.ref (B 1), .int (iZ 2), .ref b]) rfl ?_
                    refine pw_iload_n (i := 3) C dX10_tellObject_174 rfl rfl ?_
                    have c_1046 := ((o_1044 1002 (by omega)).trans ((o_1004 1002 (by omega)).trans (hf1 1002 (by omega)))).trans l1
                    have g_1047 := m1 z
                    refine pw_iald C c_1046 ⟨by omega, by omega, by omega⟩ dX10_tellObject_175 ?_
                    refine pw_imul C dX10_tellObject_176 ?_
                    refine pw_iconst C dX10_tellObject_177 ?_
                    refine pw_iadd C dX10_tellObject_178 ?_
                    have c_1048 := (o_1044 1019 (by omega)).trans c_1007
                    refine pw_callV (As := [.int (iZ ((2 * fR z) + 1))]) (st := []) C (m_X10_later g l e_1042 (v := (((((true, X1) :: S1).length : Nat) : Int) - 1)) rfl c_1048 g19 (c0 := ((2 * fR z) + 1)) (by omega)) my_X10_later ml_X10_277 (pw_rec.of C e_1042 cl_X10.1) rfl ⟨Nat.le_of_ble_eq_true rfl, Nat.le_of_ble_eq_true rfl⟩ ⟨by (try dsimp only); omega, by (try dsimp only); omega⟩ rfl (Nat.le_of_ble_eq_true rfl) dX10_tellObject_179 ?_
                    rintro _ w_1049 ⟨rfl, e_1050, f_1051, o_1052⟩
                    refine pw_stk (st' := []) rfl ?_
                    refine pw_aload_n (i := 0) C dX10_tellObject_182 rfl rfl (Or.inr ⟨_, rfl⟩) ?_
                    refine pw_iconst C dX10_tellObject_183 ?_
                    refine pw_aload_n (i := 0) C dX10_tellObject_184 rfl rfl (Or.inr ⟨_, rfl⟩) ?_
                    refine pw_get (j := 0) C cl_X10 fl_X10_8 (by decide) rfl e_1050 rfl dX10_tellObject_185 ?_
                    refine pw_stk (st' := [.ref (B 0), .int (iZ 2), .ref b]) rfl ?_
                    refine pw_iload_n (i := 3) C dX10_tellObject_188 rfl rfl ?_
                    have c_1053 := ((o_1052 1001 (by omega)).trans ((o_1044 1001 (by omega)).trans ((o_1004 1001 (by omega)).trans (hf1 1001 (by omega))))).trans l0
                    have g_1054 := m0 z
                    refine pw_iald C c_1053 ⟨by omega, by omega, by omega⟩ dX10_tellObject_189 ?_
                    refine pw_imul C dX10_tellObject_190 ?_
                    refine pw_callV (As := [.int (iZ (2 * fL z))]) (st := []) C (m_X10_later g l e_1050 (v := ((((((true, X1) :: S1).length : Nat) : Int) - 1) + 1)) rfl f_1051 (upz_inI g19 (by omega)) (c0 := (2 * fL z)) (by omega)) my_X10_later ml_X10_277 (pw_rec.of C e_1050 cl_X10.1) rfl ⟨Nat.le_of_ble_eq_true rfl, Nat.le_of_ble_eq_true rfl⟩ ⟨by (try dsimp only); omega, by (try dsimp only); omega⟩ rfl (Nat.le_of_ble_eq_true rfl) dX10_tellObject_191 ?_
                    rintro _ w_1055 ⟨rfl, e_1056, f_1057, o_1058⟩
                    refine pw_stk (st' := []) rfl ?_
                    refine pw_goto (tgt := 226) C dX10_tellObject_194 (by decide) ?_
                    refine pw_goto (tgt := 12) C dX10_tellObject_226 (by decide) ?_
                    refine pw_sub [0, 1] rfl ?_
                    have hLe : (L1 ++ [32]) = L1 ++ [32] := rfl
                    have O_1059 := O_1043.same (w' := w_1055) ((o_1058 1015 (by omega)).trans (o_1052 1015 (by omega)))
                    have hOn := O_1059
                    rw [hLe] at hOn
                    have hvn := hOn.v
                    have hgr := szF_grow (L := L1) (M := [32]) (by simp) (by omega)
                    refine ih w_1055 v_1040 (L1 ++ [32]) ((false, obCar X1) :: (true, obCdr X1) :: S1) (upz (upz fk (((((true, X1) :: S1).length : Nat) : Int) - 1) ((2 * fR z) + 1)) ((((((true, X1) :: S1).length : Nat) : Int) - 1) + 1) (2 * fL z)) (by omega) ?_ hOn f_1057 (upz_inI (upz_inI g19 (by omega)) (by omega)) ?_ ?_ ?_ (fun k hk => (o_1058 k (by omega)).trans ((o_1052 k (by omega)).trans ((o_1044 k (by omega)).trans ((o_1004 k (by omega)).trans (hf1 k (by omega))))))
                    · rw [e_1056, show (((((false, obCar X1) :: (true, obCdr X1) :: S1) : List (Bool × Ob)).length : Nat) : Int) = (((((((true, X1) :: S1).length : Nat) : Int) - 1) + 1) + 1) by simp only [List.length_cons]; omega]; rfl
                    · have q0 : ((((true, X1) :: S1).length : Nat) : Int) - 1 = ((S1.length : Nat) : Int) := by omega
                      have q1 : ((((true, X1) :: S1).length : Nat) : Int) - 1 + 1 = (((S1.length + 1 : Nat)) : Int) := by omega
                      exact ⟨⟨_, by rw [q1]; show upz _ _ _ (((S1.length + 1 : Nat)) : Int) = _; rw [upz_self]; show _ = 2 * fL z + 0; omega, hcc.1⟩, ⟨_, by rw [upz_ne _ _ (by omega), q0, upz_self]; rfl, hcc.2⟩, StM.up (StM.up hSt.2 (by omega)) (by omega)⟩
                    · rw [← hq, stx_t X1 S1]; rw [(otm_p hp).1]; simp [stx_f, stx_t]
                    · simp only [List.length_cons] at hsl ⊢; omega
                · have hXn : X1 = oNil := (RS.inj hR hk1 hK.nil).mp (by omega)
                  refine pw_aload_n (i := 0) C dX10_tellObject_145 rfl rfl (Or.inr ⟨_, rfl⟩) ?_
                  refine pw_bipush C dX10_tellObject_146 (by decide) ?_
                  have O_1065 := hO1.same (w' := w_1005) ((o_1004 1015 (by omega)))
                  have O_1063v := O_1065.v
                  refine pw_callV (As := [.int (iZ 41)]) (st := []) C (m_X10_tellLetter g l k_1006 (v := v1) rfl O_1065 (c0 := 41) (by omega)) my_X10_tellLetter ml_X10_271 (pw_rec.of C k_1006 cl_X10.1) rfl ⟨Nat.le_of_ble_eq_true rfl, Nat.le_of_ble_eq_true rfl⟩ ⟨by (try dsimp only); omega, by (try dsimp only); omega⟩ rfl (Nat.le_of_ble_eq_true rfl) dX10_tellObject_148 ?_
                  rintro _ w_1061 ⟨rfl, ⟨v_1060, e_1062, O_1063⟩, o_1064⟩
                  refine pw_stk (st' := []) rfl ?_
                  refine pw_goto (tgt := 226) C dX10_tellObject_151 (by decide) ?_
                  refine pw_goto (tgt := 12) C dX10_tellObject_226 (by decide) ?_
                  have c_1066 := (o_1064 1019 (by omega)).trans c_1007
                  refine pw_sub [0, 1] rfl ?_
                  have hLe : (L1 ++ [41]) = L1 ++ [41] := rfl
                  have hOn := O_1063
                  rw [hLe] at hOn
                  have hvn := hOn.v
                  have hgr := szF_grow (L := L1) (M := [41]) (by simp) (by omega)
                  refine ih w_1061 v_1060 (L1 ++ [41]) (S1) fk (by omega) ?_ hOn c_1066 g19 ?_ ?_ ?_ (fun k hk => (o_1064 k (by omega)).trans ((o_1004 k (by omega)).trans (hf1 k (by omega))))
                  · rw [e_1062, show ((((S1) : List (Bool × Ob)).length : Nat) : Int) = (((((true, X1) :: S1).length : Nat) : Int) - 1) by simp only [List.length_cons]; omega]; rfl
                  · exact hSt.2
                  · rw [← hq, stx_t X1 S1]; rw [hXn]; rw [(otm_np (X := oNil) rfl).2]; rw [if_pos rfl]; simp [stx_f, stx_t]
                  · simp only [List.length_cons] at hsl ⊢; omega
              · exfalso; omega
  refine pw_aload_n (i := 0) C dX10_tellObject_0 rfl rfl (Or.inr ⟨_, rfl⟩) ?_
  refine pw_iconst C dX10_tellObject_1 ?_
  refine pw_put (j := 19) C cl_X10 fl_X10_274 (by decide) rfl rfl rfl rfl rfl h0 (Nat.le_of_ble_eq_true rfl) dX10_tellObject_2 (fun w_2003 k_2001 o_2002 => ?_)
  have k_2004 : w_2003 1000 = (b, some (mdE B (va_up x 19 0))) := k_2001
  refine pw_aload_n (i := 0) C dX10_tellObject_5 rfl rfl (Or.inr ⟨_, rfl⟩) ?_
  refine pw_iconst C dX10_tellObject_6 ?_
  refine pw_iload_n (i := 1) C dX10_tellObject_7 rfl rfl ?_
  refine pw_imul C dX10_tellObject_8 ?_
  have c_2005 := (o_2002 1019 (by omega)).trans a18
  refine pw_callV (As := [.int (iZ (2 * o))]) (st := []) C (m_X10_later g l k_2004 (v := 0) rfl c_2005 u18 (c0 := (2 * o)) (by omega)) my_X10_later ml_X10_277 (pw_rec.of C k_2004 cl_X10.1) rfl ⟨Nat.le_of_ble_eq_true rfl, Nat.le_of_ble_eq_true rfl⟩ ⟨by (try dsimp only); omega, by (try dsimp only); omega⟩ rfl (Nat.le_of_ble_eq_true rfl) dX10_tellObject_9 ?_
  rintro _ w_2006 ⟨rfl, e_2007, f_2008, o_2009⟩
  refine pw_stk (st' := []) rfl ?_
  exact loop 2000 w_2006 v L [(false, X)] (upz fk0 0 (2 * o)) (by omega) (by rw [e_2007, ← h15]; rfl) (hO.same ((o_2009 1015 (by omega)).trans (o_2002 1015 (by omega)))) f_2008 (upz_inI u18 (by omega)) ⟨⟨o, by show upz fk0 0 (2 * o) 0 = _; rw [upz_self]; show _ = 2 * o + 0; omega, ho⟩, trivial⟩ (by simp [stx]) (by simp only [List.length_cons, List.length_nil]; omega) (fun k hk => (o_2009 k (by omega)).trans (o_2002 k (by omega)))

