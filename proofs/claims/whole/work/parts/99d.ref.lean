def spN (L : List Int) : Nat := L.foldl (fun a c => a * 47 + (ixZ 1 c).toNat) 0
/-- a known name has been said -/
def rSd (g : pw_P) (w w' : pw_W) (b : Nat) (B : Nat → Nat) (x : Nat → Int) (t : Int → Ob) (n : Int) (sN : Nat) (m : Int) (X : Ob) (r : Option Value) : Prop :=
  ∃ (z : Int) (t' : Int → Ob) (n' : Int) (s' : Nat) (fZ' fW' : Int → Int), r = none ∧ w' 1000 = (b, some (mdE B (va_up (va_up (va_up x 17 m) 7 n') 10 ((s' : Nat) : Int)))) ∧ RS g w' B t' n' s' fZ' ∧ Ext t n t' n' ∧ n' ≤ n + 1 ∧ s' ≤ sN + 1 ∧ Vl t' n' z X ∧ w' 1017 = (B 16, some (AI g 12 fW')) ∧ (∀ j, inI (fW' j)) ∧ ∀ k, (k < 1000 ∨ (1010 < k ∧ k ≠ 1017) ∨ k = 1008) → w' k = w k
set_option maxRecDepth 100000 in
set_option maxHeartbeats 4000000 in
/-- spell nothing -/
theorem m_X10_spell0 (g : pw_P) (l : Launch) {w : pw_W} {b : Nat} {B : Nat → Nat} {x : Nat → Int} (h0 : w 1000 = (b, some (mdE B x))) : pw_M g l yX10_spell cX10_spell 2 none { frames := 0, cells := 0, slots := 0, locals := 0 } [.ref b, .int (iZ 0)] w (fun r w' => w = w' ∧ r = none) := by
  refine pw_M.of (by decide) (Nat.le_of_ble_eq_true rfl) rfl ?_
  intro p e s m args below meth c C hr hn
  refine pw_iload_n (i := 1) C dX10_spell_0 rfl rfl ?_
  refine pw_if_ne (tgt := 5) C (by omega) dX10_spell_1 (by decide) (fun h_1 => ?_) (fun h_1 => ?_)
  · exfalso; omega
  · exact pw_vret C hr dX10_spell_4 ⟨rfl, rfl⟩

set_option maxRecDepth 100000 in
set_option maxHeartbeats 4000000 in
/-- said 1 -/
theorem m_X10_said1 (g : pw_P) (l : Launch) {w : pw_W} {b : Nat} {B : Nat → Nat} {x : Nat → Int} (h0 : w 1000 = (b, some (mdE B x))) {t : Int → Ob} {n : Int} {sN : Nat} {fZ : Int → Int} (hR : RS g w B t n sN fZ) (h7 : x 7 = n) (h10 : x 10 = ((sN : Nat) : Int)) {fW : Int → Int} (a16 : w 1017 = (B 16, some (AI g 12 fW))) (u16 : ∀ j, inI (fW j)) {c1 : Int} (hc1 : inI c1) (nc1 : c1 ≠ 0) (ac1 : atL c1 = true) (hcap : n < 40000) (hsc : sN < 4000) : pw_M g l yX10_said cX10_said 10 none { frames := 2, cells := 0, slots := 0, locals := 47 } [.ref b, .int (iZ c1), .int (iZ 0), .int (iZ 0), .int (iZ 0), .int (iZ 0), .int (iZ 0), .int (iZ 0), .int (iZ 0)] w (fun r w' => rSd g w w' b B x t n sN 1 (.index (spN [c1])) r) := by
  refine pw_M.of (by decide) (Nat.le_of_ble_eq_true rfl) rfl ?_
  intro p e s m args below meth c C hr hn
  have hRn := hR.n
  refine pw_aload_n (i := 0) C dX10_said_0 rfl rfl (Or.inr ⟨_, rfl⟩) ?_
  refine pw_iconst C dX10_said_1 ?_
  refine pw_put (j := 17) C cl_X10 fl_X10_145 (by decide) rfl rfl rfl rfl rfl h0 (Nat.le_of_ble_eq_true rfl) dX10_said_2 (fun w_13 k_11 o_12 => ?_)
  have k_14 : w_13 1000 = (b, some (mdE B (va_up x 17 0))) := k_11
  refine pw_aload_n (i := 0) C dX10_said_5 rfl rfl (Or.inr ⟨_, rfl⟩) ?_
  refine pw_iload_n (i := 1) C dX10_said_6 rfl rfl ?_
  have c_15 := (o_12 1017 (by omega)).trans a16
  refine pw_callV (As := [.int (iZ c1)]) (st := []) C (m_X10_spell g l k_14 (m1 := 0) rfl c_15 u16 ⟨by decide, by decide⟩ hc1 nc1) my_X10_spell ml_X10_148 (pw_rec.of C k_14 cl_X10.1) rfl ⟨Nat.le_of_ble_eq_true rfl, Nat.le_of_ble_eq_true rfl⟩ ⟨by (try dsimp only); omega, by (try dsimp only); omega⟩ rfl (Nat.le_of_ble_eq_true rfl) dX10_said_7 ?_
  rintro _ w_16 ⟨rfl, e_17, e_18, o_19⟩
  refine pw_stk (st' := []) rfl ?_
  refine pw_aload_n (i := 0) C dX10_said_10 rfl rfl (Or.inr ⟨_, rfl⟩) ?_
  refine pw_iload_n (i := 2) C dX10_said_11 rfl rfl ?_
  refine pw_callV (As := [.int (iZ 0)]) (st := []) C (m_X10_spell0 g l e_17) my_X10_spell ml_X10_148 (pw_rec.of C e_17 cl_X10.1) rfl ⟨Nat.le_of_ble_eq_true rfl, Nat.le_of_ble_eq_true rfl⟩ ⟨by (try dsimp only); omega, by (try dsimp only); omega⟩ rfl (Nat.le_of_ble_eq_true rfl) dX10_said_12 ?_
  rintro _ _ ⟨rfl, rfl⟩
  refine pw_stk (st' := []) rfl ?_
  refine pw_aload_n (i := 0) C dX10_said_15 rfl rfl (Or.inr ⟨_, rfl⟩) ?_
  refine pw_iload_n (i := 3) C dX10_said_16 rfl rfl ?_
  refine pw_callV (As := [.int (iZ 0)]) (st := []) C (m_X10_spell0 g l e_17) my_X10_spell ml_X10_148 (pw_rec.of C e_17 cl_X10.1) rfl ⟨Nat.le_of_ble_eq_true rfl, Nat.le_of_ble_eq_true rfl⟩ ⟨by (try dsimp only); omega, by (try dsimp only); omega⟩ rfl (Nat.le_of_ble_eq_true rfl) dX10_said_17 ?_
  rintro _ _ ⟨rfl, rfl⟩
  refine pw_stk (st' := []) rfl ?_
  refine pw_aload_n (i := 0) C dX10_said_20 rfl rfl (Or.inr ⟨_, rfl⟩) ?_
  refine pw_iload C dX10_said_21 rfl ?_
  refine pw_callV (As := [.int (iZ 0)]) (st := []) C (m_X10_spell0 g l e_17) my_X10_spell ml_X10_148 (pw_rec.of C e_17 cl_X10.1) rfl ⟨Nat.le_of_ble_eq_true rfl, Nat.le_of_ble_eq_true rfl⟩ ⟨by (try dsimp only); omega, by (try dsimp only); omega⟩ rfl (Nat.le_of_ble_eq_true rfl) dX10_said_23 ?_
  rintro _ _ ⟨rfl, rfl⟩
  refine pw_stk (st' := []) rfl ?_
  refine pw_aload_n (i := 0) C dX10_said_26 rfl rfl (Or.inr ⟨_, rfl⟩) ?_
  refine pw_iload C dX10_said_27 rfl ?_
  refine pw_callV (As := [.int (iZ 0)]) (st := []) C (m_X10_spell0 g l e_17) my_X10_spell ml_X10_148 (pw_rec.of C e_17 cl_X10.1) rfl ⟨Nat.le_of_ble_eq_true rfl, Nat.le_of_ble_eq_true rfl⟩ ⟨by (try dsimp only); omega, by (try dsimp only); omega⟩ rfl (Nat.le_of_ble_eq_true rfl) dX10_said_29 ?_
  rintro _ _ ⟨rfl, rfl⟩
  refine pw_stk (st' := []) rfl ?_
  refine pw_aload_n (i := 0) C dX10_said_32 rfl rfl (Or.inr ⟨_, rfl⟩) ?_
  refine pw_iload C dX10_said_33 rfl ?_
  refine pw_callV (As := [.int (iZ 0)]) (st := []) C (m_X10_spell0 g l e_17) my_X10_spell ml_X10_148 (pw_rec.of C e_17 cl_X10.1) rfl ⟨Nat.le_of_ble_eq_true rfl, Nat.le_of_ble_eq_true rfl⟩ ⟨by (try dsimp only); omega, by (try dsimp only); omega⟩ rfl (Nat.le_of_ble_eq_true rfl) dX10_said_35 ?_
  rintro _ _ ⟨rfl, rfl⟩
  refine pw_stk (st' := []) rfl ?_
  refine pw_aload_n (i := 0) C dX10_said_38 rfl rfl (Or.inr ⟨_, rfl⟩) ?_
  refine pw_iload C dX10_said_39 rfl ?_
  refine pw_callV (As := [.int (iZ 0)]) (st := []) C (m_X10_spell0 g l e_17) my_X10_spell ml_X10_148 (pw_rec.of C e_17 cl_X10.1) rfl ⟨Nat.le_of_ble_eq_true rfl, Nat.le_of_ble_eq_true rfl⟩ ⟨by (try dsimp only); omega, by (try dsimp only); omega⟩ rfl (Nat.le_of_ble_eq_true rfl) dX10_said_41 ?_
  rintro _ _ ⟨rfl, rfl⟩
  refine pw_stk (st' := []) rfl ?_
  refine pw_aload_n (i := 0) C dX10_said_44 rfl rfl (Or.inr ⟨_, rfl⟩) ?_
  refine pw_iload C dX10_said_45 rfl ?_
  refine pw_callV (As := [.int (iZ 0)]) (st := []) C (m_X10_spell0 g l e_17) my_X10_spell ml_X10_148 (pw_rec.of C e_17 cl_X10.1) rfl ⟨Nat.le_of_ble_eq_true rfl, Nat.le_of_ble_eq_true rfl⟩ ⟨by (try dsimp only); omega, by (try dsimp only); omega⟩ rfl (Nat.le_of_ble_eq_true rfl) dX10_said_47 ?_
  rintro _ _ ⟨rfl, rfl⟩
  refine pw_stk (st' := []) rfl ?_
  refine pw_aload_n (i := 0) C dX10_said_50 rfl rfl (Or.inr ⟨_, rfl⟩) ?_
  have R_20 := hR.same (w' := w_16) (fun k hk => (o_19 k (by omega)).trans (o_12 k (by omega)))
  have hwa : ∀ k : Int, 0 ≤ k → k < ((1 : Nat) : Int) → atL ((upz fW 0 c1) k) = true := fun k k0 k1 => by
    have hk : k = 0 := by omega
    rcases hk with rfl
    · exact ac1
  refine pw_callV (As := []) (st := []) C (m_X10_symbol g l e_17 R_20 h7 h10 (m1 := 1) rfl e_18 (upz_inI u16 hc1) ⟨by decide, by decide⟩ hwa (by omega) (by omega)) my_X10_symbol ml_X10_152 (pw_rec.of C e_17 cl_X10.1) rfl ⟨Nat.le_of_ble_eq_true rfl, Nat.le_of_ble_eq_true rfl⟩ ⟨by (try dsimp only); omega, by (try dsimp only); omega⟩ rfl (Nat.le_of_ble_eq_true rfl) dX10_said_51 ?_
  rintro _ w9 ⟨z9, t9, n9, s9, Z9, rfl, e9, R9, x9, hn9, hs9, hZ9, v9, ho9⟩
  refine pw_stk (st' := [.int (iZ z9)]) rfl ?_
  refine pw_istore (lv' := [(0, .ref b), (1, .int (iZ c1)), (2, .int (iZ 0)), (3, .int (iZ 0)), (4, .int (iZ 0)), (5, .int (iZ 0)), (6, .int (iZ 0)), (7, .int (iZ 0)), (8, .int (iZ 0)), (9, .int (iZ z9))]) C dX10_said_54 (by decide) rfl ?_
  exact pw_vret C hr dX10_said_56 ⟨z9, t9, n9, s9, Z9, (upz fW 0 c1), rfl, by rw [e9]; rfl, R9, x9, hn9, hs9, v9, (ho9 1017 (by omega)).trans e_18, (upz_inI u16 hc1), fun k hk => (ho9 k (by omega)).trans ((o_19 k (by omega)).trans (o_12 k (by omega)))⟩

set_option maxRecDepth 100000 in
set_option maxHeartbeats 4000000 in
/-- said 2 -/
theorem m_X10_said2 (g : pw_P) (l : Launch) {w : pw_W} {b : Nat} {B : Nat → Nat} {x : Nat → Int} (h0 : w 1000 = (b, some (mdE B x))) {t : Int → Ob} {n : Int} {sN : Nat} {fZ : Int → Int} (hR : RS g w B t n sN fZ) (h7 : x 7 = n) (h10 : x 10 = ((sN : Nat) : Int)) {fW : Int → Int} (a16 : w 1017 = (B 16, some (AI g 12 fW))) (u16 : ∀ j, inI (fW j)) {c1 c2 : Int} (hc1 : inI c1) (nc1 : c1 ≠ 0) (ac1 : atL c1 = true) (hc2 : inI c2) (nc2 : c2 ≠ 0) (ac2 : atL c2 = true) (hcap : n < 40000) (hsc : sN < 4000) : pw_M g l yX10_said cX10_said 10 none { frames := 2, cells := 0, slots := 0, locals := 47 } [.ref b, .int (iZ c1), .int (iZ c2), .int (iZ 0), .int (iZ 0), .int (iZ 0), .int (iZ 0), .int (iZ 0), .int (iZ 0)] w (fun r w' => rSd g w w' b B x t n sN 2 (.index (spN [c1, c2])) r) := by
  refine pw_M.of (by decide) (Nat.le_of_ble_eq_true rfl) rfl ?_
  intro p e s m args below meth c C hr hn
  have hRn := hR.n
  refine pw_aload_n (i := 0) C dX10_said_0 rfl rfl (Or.inr ⟨_, rfl⟩) ?_
  refine pw_iconst C dX10_said_1 ?_
  refine pw_put (j := 17) C cl_X10 fl_X10_145 (by decide) rfl rfl rfl rfl rfl h0 (Nat.le_of_ble_eq_true rfl) dX10_said_2 (fun w_13 k_11 o_12 => ?_)
  have k_14 : w_13 1000 = (b, some (mdE B (va_up x 17 0))) := k_11
  refine pw_aload_n (i := 0) C dX10_said_5 rfl rfl (Or.inr ⟨_, rfl⟩) ?_
  refine pw_iload_n (i := 1) C dX10_said_6 rfl rfl ?_
  have c_15 := (o_12 1017 (by omega)).trans a16
  refine pw_callV (As := [.int (iZ c1)]) (st := []) C (m_X10_spell g l k_14 (m1 := 0) rfl c_15 u16 ⟨by decide, by decide⟩ hc1 nc1) my_X10_spell ml_X10_148 (pw_rec.of C k_14 cl_X10.1) rfl ⟨Nat.le_of_ble_eq_true rfl, Nat.le_of_ble_eq_true rfl⟩ ⟨by (try dsimp only); omega, by (try dsimp only); omega⟩ rfl (Nat.le_of_ble_eq_true rfl) dX10_said_7 ?_
  rintro _ w_16 ⟨rfl, e_17, e_18, o_19⟩
  refine pw_stk (st' := []) rfl ?_
  refine pw_aload_n (i := 0) C dX10_said_10 rfl rfl (Or.inr ⟨_, rfl⟩) ?_
  refine pw_iload_n (i := 2) C dX10_said_11 rfl rfl ?_
  refine pw_callV (As := [.int (iZ c2)]) (st := []) C (m_X10_spell g l e_17 (m1 := 1) rfl e_18 (upz_inI u16 hc1) ⟨by decide, by decide⟩ hc2 nc2) my_X10_spell ml_X10_148 (pw_rec.of C e_17 cl_X10.1) rfl ⟨Nat.le_of_ble_eq_true rfl, Nat.le_of_ble_eq_true rfl⟩ ⟨by (try dsimp only); omega, by (try dsimp only); omega⟩ rfl (Nat.le_of_ble_eq_true rfl) dX10_said_12 ?_
  rintro _ w_20 ⟨rfl, e_21, e_22, o_23⟩
  refine pw_stk (st' := []) rfl ?_
  refine pw_aload_n (i := 0) C dX10_said_15 rfl rfl (Or.inr ⟨_, rfl⟩) ?_
  refine pw_iload_n (i := 3) C dX10_said_16 rfl rfl ?_
  refine pw_callV (As := [.int (iZ 0)]) (st := []) C (m_X10_spell0 g l e_21) my_X10_spell ml_X10_148 (pw_rec.of C e_21 cl_X10.1) rfl ⟨Nat.le_of_ble_eq_true rfl, Nat.le_of_ble_eq_true rfl⟩ ⟨by (try dsimp only); omega, by (try dsimp only); omega⟩ rfl (Nat.le_of_ble_eq_true rfl) dX10_said_17 ?_
  rintro _ _ ⟨rfl, rfl⟩
  refine pw_stk (st' := []) rfl ?_
  refine pw_aload_n (i := 0) C dX10_said_20 rfl rfl (Or.inr ⟨_, rfl⟩) ?_
  refine pw_iload C dX10_said_21 rfl ?_
  refine pw_callV (As := [.int (iZ 0)]) (st := []) C (m_X10_spell0 g l e_21) my_X10_spell ml_X10_148 (pw_rec.of C e_21 cl_X10.1) rfl ⟨Nat.le_of_ble_eq_true rfl, Nat.le_of_ble_eq_true rfl⟩ ⟨by (try dsimp only); omega, by (try dsimp only); omega⟩ rfl (Nat.le_of_ble_eq_true rfl) dX10_said_23 ?_
  rintro _ _ ⟨rfl, rfl⟩
  refine pw_stk (st' := []) rfl ?_
  refine pw_aload_n (i := 0) C dX10_said_26 rfl rfl (Or.inr ⟨_, rfl⟩) ?_
  refine pw_iload C dX10_said_27 rfl ?_
  refine pw_callV (As := [.int (iZ 0)]) (st := []) C (m_X10_spell0 g l e_21) my_X10_spell ml_X10_148 (pw_rec.of C e_21 cl_X10.1) rfl ⟨Nat.le_of_ble_eq_true rfl, Nat.le_of_ble_eq_true rfl⟩ ⟨by (try dsimp only); omega, by (try dsimp only); omega⟩ rfl (Nat.le_of_ble_eq_true rfl) dX10_said_29 ?_
  rintro _ _ ⟨rfl, rfl⟩
  refine pw_stk (st' := []) rfl ?_
  refine pw_aload_n (i := 0) C dX10_said_32 rfl rfl (Or.inr ⟨_, rfl⟩) ?_
  refine pw_iload C dX10_said_33 rfl ?_
  refine pw_callV (As := [.int (iZ 0)]) (st := []) C (m_X10_spell0 g l e_21) my_X10_spell ml_X10_148 (pw_rec.of C e_21 cl_X10.1) rfl ⟨Nat.le_of_ble_eq_true rfl, Nat.le_of_ble_eq_true rfl⟩ ⟨by (try dsimp only); omega, by (try dsimp only); omega⟩ rfl (Nat.le_of_ble_eq_true rfl) dX10_said_35 ?_
  rintro _ _ ⟨rfl, rfl⟩
  refine pw_stk (st' := []) rfl ?_
  refine pw_aload_n (i := 0) C dX10_said_38 rfl rfl (Or.inr ⟨_, rfl⟩) ?_
  refine pw_iload C dX10_said_39 rfl ?_
  refine pw_callV (As := [.int (iZ 0)]) (st := []) C (m_X10_spell0 g l e_21) my_X10_spell ml_X10_148 (pw_rec.of C e_21 cl_X10.1) rfl ⟨Nat.le_of_ble_eq_true rfl, Nat.le_of_ble_eq_true rfl⟩ ⟨by (try dsimp only); omega, by (try dsimp only); omega⟩ rfl (Nat.le_of_ble_eq_true rfl) dX10_said_41 ?_
  rintro _ _ ⟨rfl, rfl⟩
  refine pw_stk (st' := []) rfl ?_
  refine pw_aload_n (i := 0) C dX10_said_44 rfl rfl (Or.inr ⟨_, rfl⟩) ?_
  refine pw_iload C dX10_said_45 rfl ?_
  refine pw_callV (As := [.int (iZ 0)]) (st := []) C (m_X10_spell0 g l e_21) my_X10_spell ml_X10_148 (pw_rec.of C e_21 cl_X10.1) rfl ⟨Nat.le_of_ble_eq_true rfl, Nat.le_of_ble_eq_true rfl⟩ ⟨by (try dsimp only); omega, by (try dsimp only); omega⟩ rfl (Nat.le_of_ble_eq_true rfl) dX10_said_47 ?_
  rintro _ _ ⟨rfl, rfl⟩
  refine pw_stk (st' := []) rfl ?_
  refine pw_aload_n (i := 0) C dX10_said_50 rfl rfl (Or.inr ⟨_, rfl⟩) ?_
  have R_24 := hR.same (w' := w_20) (fun k hk => (o_23 k (by omega)).trans ((o_19 k (by omega)).trans (o_12 k (by omega))))
  have hwa : ∀ k : Int, 0 ≤ k → k < ((2 : Nat) : Int) → atL ((upz (upz fW 0 c1) 1 c2) k) = true := fun k k0 k1 => by
    have hk : k = 0 ∨ k = 1 := by omega
    rcases hk with rfl | rfl
    · exact ac1
    · exact ac2
  refine pw_callV (As := []) (st := []) C (m_X10_symbol g l e_21 R_24 h7 h10 (m1 := 2) rfl e_22 (upz_inI (upz_inI u16 hc1) hc2) ⟨by decide, by decide⟩ hwa (by omega) (by omega)) my_X10_symbol ml_X10_152 (pw_rec.of C e_21 cl_X10.1) rfl ⟨Nat.le_of_ble_eq_true rfl, Nat.le_of_ble_eq_true rfl⟩ ⟨by (try dsimp only); omega, by (try dsimp only); omega⟩ rfl (Nat.le_of_ble_eq_true rfl) dX10_said_51 ?_
  rintro _ w9 ⟨z9, t9, n9, s9, Z9, rfl, e9, R9, x9, hn9, hs9, hZ9, v9, ho9⟩
  refine pw_stk (st' := [.int (iZ z9)]) rfl ?_
  refine pw_istore (lv' := [(0, .ref b), (1, .int (iZ c1)), (2, .int (iZ c2)), (3, .int (iZ 0)), (4, .int (iZ 0)), (5, .int (iZ 0)), (6, .int (iZ 0)), (7, .int (iZ 0)), (8, .int (iZ 0)), (9, .int (iZ z9))]) C dX10_said_54 (by decide) rfl ?_
  exact pw_vret C hr dX10_said_56 ⟨z9, t9, n9, s9, Z9, (upz (upz fW 0 c1) 1 c2), rfl, by rw [e9]; rfl, R9, x9, hn9, hs9, v9, (ho9 1017 (by omega)).trans e_22, (upz_inI (upz_inI u16 hc1) hc2), fun k hk => (ho9 k (by omega)).trans ((o_23 k (by omega)).trans ((o_19 k (by omega)).trans (o_12 k (by omega))))⟩

set_option maxRecDepth 100000 in
set_option maxHeartbeats 4000000 in
/-- said 3 -/
theorem m_X10_said3 (g : pw_P) (l : Launch) {w : pw_W} {b : Nat} {B : Nat → Nat} {x : Nat → Int} (h0 : w 1000 = (b, some (mdE B x))) {t : Int → Ob} {n : Int} {sN : Nat} {fZ : Int → Int} (hR : RS g w B t n sN fZ) (h7 : x 7 = n) (h10 : x 10 = ((sN : Nat) : Int)) {fW : Int → Int} (a16 : w 1017 = (B 16, some (AI g 12 fW))) (u16 : ∀ j, inI (fW j)) {c1 c2 c3 : Int} (hc1 : inI c1) (nc1 : c1 ≠ 0) (ac1 : atL c1 = true) (hc2 : inI c2) (nc2 : c2 ≠ 0) (ac2 : atL c2 = true) (hc3 : inI c3) (nc3 : c3 ≠ 0) (ac3 : atL c3 = true) (hcap : n < 40000) (hsc : sN < 4000) : pw_M g l yX10_said cX10_said 10 none { frames := 2, cells := 0, slots := 0, locals := 47 } [.ref b, .int (iZ c1), .int (iZ c2), .int (iZ c3), .int (iZ 0), .int (iZ 0), .int (iZ 0), .int (iZ 0), .int (iZ 0)] w (fun r w' => rSd g w w' b B x t n sN 3 (.index (spN [c1, c2, c3])) r) := by
  refine pw_M.of (by decide) (Nat.le_of_ble_eq_true rfl) rfl ?_
  intro p e s m args below meth c C hr hn
  have hRn := hR.n
  refine pw_aload_n (i := 0) C dX10_said_0 rfl rfl (Or.inr ⟨_, rfl⟩) ?_
  refine pw_iconst C dX10_said_1 ?_
  refine pw_put (j := 17) C cl_X10 fl_X10_145 (by decide) rfl rfl rfl rfl rfl h0 (Nat.le_of_ble_eq_true rfl) dX10_said_2 (fun w_13 k_11 o_12 => ?_)
  have k_14 : w_13 1000 = (b, some (mdE B (va_up x 17 0))) := k_11
  refine pw_aload_n (i := 0) C dX10_said_5 rfl rfl (Or.inr ⟨_, rfl⟩) ?_
  refine pw_iload_n (i := 1) C dX10_said_6 rfl rfl ?_
  have c_15 := (o_12 1017 (by omega)).trans a16
  refine pw_callV (As := [.int (iZ c1)]) (st := []) C (m_X10_spell g l k_14 (m1 := 0) rfl c_15 u16 ⟨by decide, by decide⟩ hc1 nc1) my_X10_spell ml_X10_148 (pw_rec.of C k_14 cl_X10.1) rfl ⟨Nat.le_of_ble_eq_true rfl, Nat.le_of_ble_eq_true rfl⟩ ⟨by (try dsimp only); omega, by (try dsimp only); omega⟩ rfl (Nat.le_of_ble_eq_true rfl) dX10_said_7 ?_
  rintro _ w_16 ⟨rfl, e_17, e_18, o_19⟩
  refine pw_stk (st' := []) rfl ?_
  refine pw_aload_n (i := 0) C dX10_said_10 rfl rfl (Or.inr ⟨_, rfl⟩) ?_
  refine pw_iload_n (i := 2) C dX10_said_11 rfl rfl ?_
  refine pw_callV (As := [.int (iZ c2)]) (st := []) C (m_X10_spell g l e_17 (m1 := 1) rfl e_18 (upz_inI u16 hc1) ⟨by decide, by decide⟩ hc2 nc2) my_X10_spell ml_X10_148 (pw_rec.of C e_17 cl_X10.1) rfl ⟨Nat.le_of_ble_eq_true rfl, Nat.le_of_ble_eq_true rfl⟩ ⟨by (try dsimp only); omega, by (try dsimp only); omega⟩ rfl (Nat.le_of_ble_eq_true rfl) dX10_said_12 ?_
  rintro _ w_20 ⟨rfl, e_21, e_22, o_23⟩
  refine pw_stk (st' := []) rfl ?_
  refine pw_aload_n (i := 0) C dX10_said_15 rfl rfl (Or.inr ⟨_, rfl⟩) ?_
  refine pw_iload_n (i := 3) C dX10_said_16 rfl rfl ?_
  refine pw_callV (As := [.int (iZ c3)]) (st := []) C (m_X10_spell g l e_21 (m1 := 2) rfl e_22 (upz_inI (upz_inI u16 hc1) hc2) ⟨by decide, by decide⟩ hc3 nc3) my_X10_spell ml_X10_148 (pw_rec.of C e_21 cl_X10.1) rfl ⟨Nat.le_of_ble_eq_true rfl, Nat.le_of_ble_eq_true rfl⟩ ⟨by (try dsimp only); omega, by (try dsimp only); omega⟩ rfl (Nat.le_of_ble_eq_true rfl) dX10_said_17 ?_
  rintro _ w_24 ⟨rfl, e_25, e_26, o_27⟩
  refine pw_stk (st' := []) rfl ?_
  refine pw_aload_n (i := 0) C dX10_said_20 rfl rfl (Or.inr ⟨_, rfl⟩) ?_
  refine pw_iload C dX10_said_21 rfl ?_
  refine pw_callV (As := [.int (iZ 0)]) (st := []) C (m_X10_spell0 g l e_25) my_X10_spell ml_X10_148 (pw_rec.of C e_25 cl_X10.1) rfl ⟨Nat.le_of_ble_eq_true rfl, Nat.le_of_ble_eq_true rfl⟩ ⟨by (try dsimp only); omega, by (try dsimp only); omega⟩ rfl (Nat.le_of_ble_eq_true rfl) dX10_said_23 ?_
  rintro _ _ ⟨rfl, rfl⟩
  refine pw_stk (st' := []) rfl ?_
  refine pw_aload_n (i := 0) C dX10_said_26 rfl rfl (Or.inr ⟨_, rfl⟩) ?_
  refine pw_iload C dX10_said_27 rfl ?_
  refine pw_callV (As := [.int (iZ 0)]) (st := []) C (m_X10_spell0 g l e_25) my_X10_spell ml_X10_148 (pw_rec.of C e_25 cl_X10.1) rfl ⟨Nat.le_of_ble_eq_true rfl, Nat.le_of_ble_eq_true rfl⟩ ⟨by (try dsimp only); omega, by (try dsimp only); omega⟩ rfl (Nat.le_of_ble_eq_true rfl) dX10_said_29 ?_
  rintro _ _ ⟨rfl, rfl⟩
  refine pw_stk (st' := []) rfl ?_
  refine pw_aload_n (i := 0) C dX10_said_32 rfl rfl (Or.inr ⟨_, rfl⟩) ?_
  refine pw_iload C dX10_said_33 rfl ?_
  refine pw_callV (As := [.int (iZ 0)]) (st := []) C (m_X10_spell0 g l e_25) my_X10_spell ml_X10_148 (pw_rec.of C e_25 cl_X10.1) rfl ⟨Nat.le_of_ble_eq_true rfl, Nat.le_of_ble_eq_true rfl⟩ ⟨by (try dsimp only); omega, by (try dsimp only); omega⟩ rfl (Nat.le_of_ble_eq_true rfl) dX10_said_35 ?_
  rintro _ _ ⟨rfl, rfl⟩
  refine pw_stk (st' := []) rfl ?_
  refine pw_aload_n (i := 0) C dX10_said_38 rfl rfl (Or.inr ⟨_, rfl⟩) ?_
  refine pw_iload C dX10_said_39 rfl ?_
  refine pw_callV (As := [.int (iZ 0)]) (st := []) C (m_X10_spell0 g l e_25) my_X10_spell ml_X10_148 (pw_rec.of C e_25 cl_X10.1) rfl ⟨Nat.le_of_ble_eq_true rfl, Nat.le_of_ble_eq_true rfl⟩ ⟨by (try dsimp only); omega, by (try dsimp only); omega⟩ rfl (Nat.le_of_ble_eq_true rfl) dX10_said_41 ?_
  rintro _ _ ⟨rfl, rfl⟩
  refine pw_stk (st' := []) rfl ?_
  refine pw_aload_n (i := 0) C dX10_said_44 rfl rfl (Or.inr ⟨_, rfl⟩) ?_
  refine pw_iload C dX10_said_45 rfl ?_
  refine pw_callV (As := [.int (iZ 0)]) (st := []) C (m_X10_spell0 g l e_25) my_X10_spell ml_X10_148 (pw_rec.of C e_25 cl_X10.1) rfl ⟨Nat.le_of_ble_eq_true rfl, Nat.le_of_ble_eq_true rfl⟩ ⟨by (try dsimp only); omega, by (try dsimp only); omega⟩ rfl (Nat.le_of_ble_eq_true rfl) dX10_said_47 ?_
  rintro _ _ ⟨rfl, rfl⟩
  refine pw_stk (st' := []) rfl ?_
  refine pw_aload_n (i := 0) C dX10_said_50 rfl rfl (Or.inr ⟨_, rfl⟩) ?_
  have R_28 := hR.same (w' := w_24) (fun k hk => (o_27 k (by omega)).trans ((o_23 k (by omega)).trans ((o_19 k (by omega)).trans (o_12 k (by omega)))))
  have hwa : ∀ k : Int, 0 ≤ k → k < ((3 : Nat) : Int) → atL ((upz (upz (upz fW 0 c1) 1 c2) 2 c3) k) = true := fun k k0 k1 => by
    have hk : k = 0 ∨ k = 1 ∨ k = 2 := by omega
    rcases hk with rfl | rfl | rfl
    · exact ac1
    · exact ac2
    · exact ac3
  refine pw_callV (As := []) (st := []) C (m_X10_symbol g l e_25 R_28 h7 h10 (m1 := 3) rfl e_26 (upz_inI (upz_inI (upz_inI u16 hc1) hc2) hc3) ⟨by decide, by decide⟩ hwa (by omega) (by omega)) my_X10_symbol ml_X10_152 (pw_rec.of C e_25 cl_X10.1) rfl ⟨Nat.le_of_ble_eq_true rfl, Nat.le_of_ble_eq_true rfl⟩ ⟨by (try dsimp only); omega, by (try dsimp only); omega⟩ rfl (Nat.le_of_ble_eq_true rfl) dX10_said_51 ?_
  rintro _ w9 ⟨z9, t9, n9, s9, Z9, rfl, e9, R9, x9, hn9, hs9, hZ9, v9, ho9⟩
  refine pw_stk (st' := [.int (iZ z9)]) rfl ?_
  refine pw_istore (lv' := [(0, .ref b), (1, .int (iZ c1)), (2, .int (iZ c2)), (3, .int (iZ c3)), (4, .int (iZ 0)), (5, .int (iZ 0)), (6, .int (iZ 0)), (7, .int (iZ 0)), (8, .int (iZ 0)), (9, .int (iZ z9))]) C dX10_said_54 (by decide) rfl ?_
  exact pw_vret C hr dX10_said_56 ⟨z9, t9, n9, s9, Z9, (upz (upz (upz fW 0 c1) 1 c2) 2 c3), rfl, by rw [e9]; rfl, R9, x9, hn9, hs9, v9, (ho9 1017 (by omega)).trans e_26, (upz_inI (upz_inI (upz_inI u16 hc1) hc2) hc3), fun k hk => (ho9 k (by omega)).trans ((o_27 k (by omega)).trans ((o_23 k (by omega)).trans ((o_19 k (by omega)).trans (o_12 k (by omega)))))⟩

set_option maxRecDepth 100000 in
set_option maxHeartbeats 4000000 in
/-- said 4 -/
theorem m_X10_said4 (g : pw_P) (l : Launch) {w : pw_W} {b : Nat} {B : Nat → Nat} {x : Nat → Int} (h0 : w 1000 = (b, some (mdE B x))) {t : Int → Ob} {n : Int} {sN : Nat} {fZ : Int → Int} (hR : RS g w B t n sN fZ) (h7 : x 7 = n) (h10 : x 10 = ((sN : Nat) : Int)) {fW : Int → Int} (a16 : w 1017 = (B 16, some (AI g 12 fW))) (u16 : ∀ j, inI (fW j)) {c1 c2 c3 c4 : Int} (hc1 : inI c1) (nc1 : c1 ≠ 0) (ac1 : atL c1 = true) (hc2 : inI c2) (nc2 : c2 ≠ 0) (ac2 : atL c2 = true) (hc3 : inI c3) (nc3 : c3 ≠ 0) (ac3 : atL c3 = true) (hc4 : inI c4) (nc4 : c4 ≠ 0) (ac4 : atL c4 = true) (hcap : n < 40000) (hsc : sN < 4000) : pw_M g l yX10_said cX10_said 10 none { frames := 2, cells := 0, slots := 0, locals := 47 } [.ref b, .int (iZ c1), .int (iZ c2), .int (iZ c3), .int (iZ c4), .int (iZ 0), .int (iZ 0), .int (iZ 0), .int (iZ 0)] w (fun r w' => rSd g w w' b B x t n sN 4 (.index (spN [c1, c2, c3, c4])) r) := by
  refine pw_M.of (by decide) (Nat.le_of_ble_eq_true rfl) rfl ?_
  intro p e s m args below meth c C hr hn
  have hRn := hR.n
  refine pw_aload_n (i := 0) C dX10_said_0 rfl rfl (Or.inr ⟨_, rfl⟩) ?_
  refine pw_iconst C dX10_said_1 ?_
  refine pw_put (j := 17) C cl_X10 fl_X10_145 (by decide) rfl rfl rfl rfl rfl h0 (Nat.le_of_ble_eq_true rfl) dX10_said_2 (fun w_13 k_11 o_12 => ?_)
  have k_14 : w_13 1000 = (b, some (mdE B (va_up x 17 0))) := k_11
  refine pw_aload_n (i := 0) C dX10_said_5 rfl rfl (Or.inr ⟨_, rfl⟩) ?_
  refine pw_iload_n (i := 1) C dX10_said_6 rfl rfl ?_
  have c_15 := (o_12 1017 (by omega)).trans a16
  refine pw_callV (As := [.int (iZ c1)]) (st := []) C (m_X10_spell g l k_14 (m1 := 0) rfl c_15 u16 ⟨by decide, by decide⟩ hc1 nc1) my_X10_spell ml_X10_148 (pw_rec.of C k_14 cl_X10.1) rfl ⟨Nat.le_of_ble_eq_true rfl, Nat.le_of_ble_eq_true rfl⟩ ⟨by (try dsimp only); omega, by (try dsimp only); omega⟩ rfl (Nat.le_of_ble_eq_true rfl) dX10_said_7 ?_
  rintro _ w_16 ⟨rfl, e_17, e_18, o_19⟩
  refine pw_stk (st' := []) rfl ?_
  refine pw_aload_n (i := 0) C dX10_said_10 rfl rfl (Or.inr ⟨_, rfl⟩) ?_
  refine pw_iload_n (i := 2) C dX10_said_11 rfl rfl ?_
  refine pw_callV (As := [.int (iZ c2)]) (st := []) C (m_X10_spell g l e_17 (m1 := 1) rfl e_18 (upz_inI u16 hc1) ⟨by decide, by decide⟩ hc2 nc2) my_X10_spell ml_X10_148 (pw_rec.of C e_17 cl_X10.1) rfl ⟨Nat.le_of_ble_eq_true rfl, Nat.le_of_ble_eq_true rfl⟩ ⟨by (try dsimp only); omega, by (try dsimp only); omega⟩ rfl (Nat.le_of_ble_eq_true rfl) dX10_said_12 ?_
  rintro _ w_20 ⟨rfl, e_21, e_22, o_23⟩
  refine pw_stk (st' := []) rfl ?_
  refine pw_aload_n (i := 0) C dX10_said_15 rfl rfl (Or.inr ⟨_, rfl⟩) ?_
  refine pw_iload_n (i := 3) C dX10_said_16 rfl rfl ?_
  refine pw_callV (As := [.int (iZ c3)]) (st := []) C (m_X10_spell g l e_21 (m1 := 2) rfl e_22 (upz_inI (upz_inI u16 hc1) hc2) ⟨by decide, by decide⟩ hc3 nc3) my_X10_spell ml_X10_148 (pw_rec.of C e_21 cl_X10.1) rfl ⟨Nat.le_of_ble_eq_true rfl, Nat.le_of_ble_eq_true rfl⟩ ⟨by (try dsimp only); omega, by (try dsimp only); omega⟩ rfl (Nat.le_of_ble_eq_true rfl) dX10_said_17 ?_
  rintro _ w_24 ⟨rfl, e_25, e_26, o_27⟩
  refine pw_stk (st' := []) rfl ?_
  refine pw_aload_n (i := 0) C dX10_said_20 rfl rfl (Or.inr ⟨_, rfl⟩) ?_
  refine pw_iload C dX10_said_21 rfl ?_
  refine pw_callV (As := [.int (iZ c4)]) (st := []) C (m_X10_spell g l e_25 (m1 := 3) rfl e_26 (upz_inI (upz_inI (upz_inI u16 hc1) hc2) hc3) ⟨by decide, by decide⟩ hc4 nc4) my_X10_spell ml_X10_148 (pw_rec.of C e_25 cl_X10.1) rfl ⟨Nat.le_of_ble_eq_true rfl, Nat.le_of_ble_eq_true rfl⟩ ⟨by (try dsimp only); omega, by (try dsimp only); omega⟩ rfl (Nat.le_of_ble_eq_true rfl) dX10_said_23 ?_
  rintro _ w_28 ⟨rfl, e_29, e_30, o_31⟩
  refine pw_stk (st' := []) rfl ?_
  refine pw_aload_n (i := 0) C dX10_said_26 rfl rfl (Or.inr ⟨_, rfl⟩) ?_
  refine pw_iload C dX10_said_27 rfl ?_
  refine pw_callV (As := [.int (iZ 0)]) (st := []) C (m_X10_spell0 g l e_29) my_X10_spell ml_X10_148 (pw_rec.of C e_29 cl_X10.1) rfl ⟨Nat.le_of_ble_eq_true rfl, Nat.le_of_ble_eq_true rfl⟩ ⟨by (try dsimp only); omega, by (try dsimp only); omega⟩ rfl (Nat.le_of_ble_eq_true rfl) dX10_said_29 ?_
  rintro _ _ ⟨rfl, rfl⟩
  refine pw_stk (st' := []) rfl ?_
  refine pw_aload_n (i := 0) C dX10_said_32 rfl rfl (Or.inr ⟨_, rfl⟩) ?_
  refine pw_iload C dX10_said_33 rfl ?_
  refine pw_callV (As := [.int (iZ 0)]) (st := []) C (m_X10_spell0 g l e_29) my_X10_spell ml_X10_148 (pw_rec.of C e_29 cl_X10.1) rfl ⟨Nat.le_of_ble_eq_true rfl, Nat.le_of_ble_eq_true rfl⟩ ⟨by (try dsimp only); omega, by (try dsimp only); omega⟩ rfl (Nat.le_of_ble_eq_true rfl) dX10_said_35 ?_
  rintro _ _ ⟨rfl, rfl⟩
  refine pw_stk (st' := []) rfl ?_
  refine pw_aload_n (i := 0) C dX10_said_38 rfl rfl (Or.inr ⟨_, rfl⟩) ?_
  refine pw_iload C dX10_said_39 rfl ?_
  refine pw_callV (As := [.int (iZ 0)]) (st := []) C (m_X10_spell0 g l e_29) my_X10_spell ml_X10_148 (pw_rec.of C e_29 cl_X10.1) rfl ⟨Nat.le_of_ble_eq_true rfl, Nat.le_of_ble_eq_true rfl⟩ ⟨by (try dsimp only); omega, by (try dsimp only); omega⟩ rfl (Nat.le_of_ble_eq_true rfl) dX10_said_41 ?_
  rintro _ _ ⟨rfl, rfl⟩
  refine pw_stk (st' := []) rfl ?_
  refine pw_aload_n (i := 0) C dX10_said_44 rfl rfl (Or.inr ⟨_, rfl⟩) ?_
  refine pw_iload C dX10_said_45 rfl ?_
  refine pw_callV (As := [.int (iZ 0)]) (st := []) C (m_X10_spell0 g l e_29) my_X10_spell ml_X10_148 (pw_rec.of C e_29 cl_X10.1) rfl ⟨Nat.le_of_ble_eq_true rfl, Nat.le_of_ble_eq_true rfl⟩ ⟨by (try dsimp only); omega, by (try dsimp only); omega⟩ rfl (Nat.le_of_ble_eq_true rfl) dX10_said_47 ?_
  rintro _ _ ⟨rfl, rfl⟩
  refine pw_stk (st' := []) rfl ?_
  refine pw_aload_n (i := 0) C dX10_said_50 rfl rfl (Or.inr ⟨_, rfl⟩) ?_
  have R_32 := hR.same (w' := w_28) (fun k hk => (o_31 k (by omega)).trans ((o_27 k (by omega)).trans ((o_23 k (by omega)).trans ((o_19 k (by omega)).trans (o_12 k (by omega))))))
  have hwa : ∀ k : Int, 0 ≤ k → k < ((4 : Nat) : Int) → atL ((upz (upz (upz (upz fW 0 c1) 1 c2) 2 c3) 3 c4) k) = true := fun k k0 k1 => by
    have hk : k = 0 ∨ k = 1 ∨ k = 2 ∨ k = 3 := by omega
    rcases hk with rfl | rfl | rfl | rfl
    · exact ac1
    · exact ac2
    · exact ac3
    · exact ac4
  refine pw_callV (As := []) (st := []) C (m_X10_symbol g l e_29 R_32 h7 h10 (m1 := 4) rfl e_30 (upz_inI (upz_inI (upz_inI (upz_inI u16 hc1) hc2) hc3) hc4) ⟨by decide, by decide⟩ hwa (by omega) (by omega)) my_X10_symbol ml_X10_152 (pw_rec.of C e_29 cl_X10.1) rfl ⟨Nat.le_of_ble_eq_true rfl, Nat.le_of_ble_eq_true rfl⟩ ⟨by (try dsimp only); omega, by (try dsimp only); omega⟩ rfl (Nat.le_of_ble_eq_true rfl) dX10_said_51 ?_
  rintro _ w9 ⟨z9, t9, n9, s9, Z9, rfl, e9, R9, x9, hn9, hs9, hZ9, v9, ho9⟩
  refine pw_stk (st' := [.int (iZ z9)]) rfl ?_
  refine pw_istore (lv' := [(0, .ref b), (1, .int (iZ c1)), (2, .int (iZ c2)), (3, .int (iZ c3)), (4, .int (iZ c4)), (5, .int (iZ 0)), (6, .int (iZ 0)), (7, .int (iZ 0)), (8, .int (iZ 0)), (9, .int (iZ z9))]) C dX10_said_54 (by decide) rfl ?_
  exact pw_vret C hr dX10_said_56 ⟨z9, t9, n9, s9, Z9, (upz (upz (upz (upz fW 0 c1) 1 c2) 2 c3) 3 c4), rfl, by rw [e9]; rfl, R9, x9, hn9, hs9, v9, (ho9 1017 (by omega)).trans e_30, (upz_inI (upz_inI (upz_inI (upz_inI u16 hc1) hc2) hc3) hc4), fun k hk => (ho9 k (by omega)).trans ((o_31 k (by omega)).trans ((o_27 k (by omega)).trans ((o_23 k (by omega)).trans ((o_19 k (by omega)).trans (o_12 k (by omega))))))⟩

set_option maxRecDepth 100000 in
set_option maxHeartbeats 4000000 in
/-- said 5 -/
theorem m_X10_said5 (g : pw_P) (l : Launch) {w : pw_W} {b : Nat} {B : Nat → Nat} {x : Nat → Int} (h0 : w 1000 = (b, some (mdE B x))) {t : Int → Ob} {n : Int} {sN : Nat} {fZ : Int → Int} (hR : RS g w B t n sN fZ) (h7 : x 7 = n) (h10 : x 10 = ((sN : Nat) : Int)) {fW : Int → Int} (a16 : w 1017 = (B 16, some (AI g 12 fW))) (u16 : ∀ j, inI (fW j)) {c1 c2 c3 c4 c5 : Int} (hc1 : inI c1) (nc1 : c1 ≠ 0) (ac1 : atL c1 = true) (hc2 : inI c2) (nc2 : c2 ≠ 0) (ac2 : atL c2 = true) (hc3 : inI c3) (nc3 : c3 ≠ 0) (ac3 : atL c3 = true) (hc4 : inI c4) (nc4 : c4 ≠ 0) (ac4 : atL c4 = true) (hc5 : inI c5) (nc5 : c5 ≠ 0) (ac5 : atL c5 = true) (hcap : n < 40000) (hsc : sN < 4000) : pw_M g l yX10_said cX10_said 10 none { frames := 2, cells := 0, slots := 0, locals := 47 } [.ref b, .int (iZ c1), .int (iZ c2), .int (iZ c3), .int (iZ c4), .int (iZ c5), .int (iZ 0), .int (iZ 0), .int (iZ 0)] w (fun r w' => rSd g w w' b B x t n sN 5 (.index (spN [c1, c2, c3, c4, c5])) r) := by
  refine pw_M.of (by decide) (Nat.le_of_ble_eq_true rfl) rfl ?_
  intro p e s m args below meth c C hr hn
  have hRn := hR.n
  refine pw_aload_n (i := 0) C dX10_said_0 rfl rfl (Or.inr ⟨_, rfl⟩) ?_
  refine pw_iconst C dX10_said_1 ?_
  refine pw_put (j := 17) C cl_X10 fl_X10_145 (by decide) rfl rfl rfl rfl rfl h0 (Nat.le_of_ble_eq_true rfl) dX10_said_2 (fun w_13 k_11 o_12 => ?_)
  have k_14 : w_13 1000 = (b, some (mdE B (va_up x 17 0))) := k_11
  refine pw_aload_n (i := 0) C dX10_said_5 rfl rfl (Or.inr ⟨_, rfl⟩) ?_
  refine pw_iload_n (i := 1) C dX10_said_6 rfl rfl ?_
  have c_15 := (o_12 1017 (by omega)).trans a16
  refine pw_callV (As := [.int (iZ c1)]) (st := []) C (m_X10_spell g l k_14 (m1 := 0) rfl c_15 u16 ⟨by decide, by decide⟩ hc1 nc1) my_X10_spell ml_X10_148 (pw_rec.of C k_14 cl_X10.1) rfl ⟨Nat.le_of_ble_eq_true rfl, Nat.le_of_ble_eq_true rfl⟩ ⟨by (try dsimp only); omega, by (try dsimp only); omega⟩ rfl (Nat.le_of_ble_eq_true rfl) dX10_said_7 ?_
  rintro _ w_16 ⟨rfl, e_17, e_18, o_19⟩
  refine pw_stk (st' := []) rfl ?_
  refine pw_aload_n (i := 0) C dX10_said_10 rfl rfl (Or.inr ⟨_, rfl⟩) ?_
  refine pw_iload_n (i := 2) C dX10_said_11 rfl rfl ?_
  refine pw_callV (As := [.int (iZ c2)]) (st := []) C (m_X10_spell g l e_17 (m1 := 1) rfl e_18 (upz_inI u16 hc1) ⟨by decide, by decide⟩ hc2 nc2) my_X10_spell ml_X10_148 (pw_rec.of C e_17 cl_X10.1) rfl ⟨Nat.le_of_ble_eq_true rfl, Nat.le_of_ble_eq_true rfl⟩ ⟨by (try dsimp only); omega, by (try dsimp only); omega⟩ rfl (Nat.le_of_ble_eq_true rfl) dX10_said_12 ?_
  rintro _ w_20 ⟨rfl, e_21, e_22, o_23⟩
  refine pw_stk (st' := []) rfl ?_
  refine pw_aload_n (i := 0) C dX10_said_15 rfl rfl (Or.inr ⟨_, rfl⟩) ?_
  refine pw_iload_n (i := 3) C dX10_said_16 rfl rfl ?_
  refine pw_callV (As := [.int (iZ c3)]) (st := []) C (m_X10_spell g l e_21 (m1 := 2) rfl e_22 (upz_inI (upz_inI u16 hc1) hc2) ⟨by decide, by decide⟩ hc3 nc3) my_X10_spell ml_X10_148 (pw_rec.of C e_21 cl_X10.1) rfl ⟨Nat.le_of_ble_eq_true rfl, Nat.le_of_ble_eq_true rfl⟩ ⟨by (try dsimp only); omega, by (try dsimp only); omega⟩ rfl (Nat.le_of_ble_eq_true rfl) dX10_said_17 ?_
  rintro _ w_24 ⟨rfl, e_25, e_26, o_27⟩
  refine pw_stk (st' := []) rfl ?_
  refine pw_aload_n (i := 0) C dX10_said_20 rfl rfl (Or.inr ⟨_, rfl⟩) ?_
  refine pw_iload C dX10_said_21 rfl ?_
  refine pw_callV (As := [.int (iZ c4)]) (st := []) C (m_X10_spell g l e_25 (m1 := 3) rfl e_26 (upz_inI (upz_inI (upz_inI u16 hc1) hc2) hc3) ⟨by decide, by decide⟩ hc4 nc4) my_X10_spell ml_X10_148 (pw_rec.of C e_25 cl_X10.1) rfl ⟨Nat.le_of_ble_eq_true rfl, Nat.le_of_ble_eq_true rfl⟩ ⟨by (try dsimp only); omega, by (try dsimp only); omega⟩ rfl (Nat.le_of_ble_eq_true rfl) dX10_said_23 ?_
  rintro _ w_28 ⟨rfl, e_29, e_30, o_31⟩
  refine pw_stk (st' := []) rfl ?_
  refine pw_aload_n (i := 0) C dX10_said_26 rfl rfl (Or.inr ⟨_, rfl⟩) ?_
  refine pw_iload C dX10_said_27 rfl ?_
  refine pw_callV (As := [.int (iZ c5)]) (st := []) C (m_X10_spell g l e_29 (m1 := 4) rfl e_30 (upz_inI (upz_inI (upz_inI (upz_inI u16 hc1) hc2) hc3) hc4) ⟨by decide, by decide⟩ hc5 nc5) my_X10_spell ml_X10_148 (pw_rec.of C e_29 cl_X10.1) rfl ⟨Nat.le_of_ble_eq_true rfl, Nat.le_of_ble_eq_true rfl⟩ ⟨by (try dsimp only); omega, by (try dsimp only); omega⟩ rfl (Nat.le_of_ble_eq_true rfl) dX10_said_29 ?_
  rintro _ w_32 ⟨rfl, e_33, e_34, o_35⟩
  refine pw_stk (st' := []) rfl ?_
  refine pw_aload_n (i := 0) C dX10_said_32 rfl rfl (Or.inr ⟨_, rfl⟩) ?_
  refine pw_iload C dX10_said_33 rfl ?_
  refine pw_callV (As := [.int (iZ 0)]) (st := []) C (m_X10_spell0 g l e_33) my_X10_spell ml_X10_148 (pw_rec.of C e_33 cl_X10.1) rfl ⟨Nat.le_of_ble_eq_true rfl, Nat.le_of_ble_eq_true rfl⟩ ⟨by (try dsimp only); omega, by (try dsimp only); omega⟩ rfl (Nat.le_of_ble_eq_true rfl) dX10_said_35 ?_
  rintro _ _ ⟨rfl, rfl⟩
  refine pw_stk (st' := []) rfl ?_
  refine pw_aload_n (i := 0) C dX10_said_38 rfl rfl (Or.inr ⟨_, rfl⟩) ?_
  refine pw_iload C dX10_said_39 rfl ?_
  refine pw_callV (As := [.int (iZ 0)]) (st := []) C (m_X10_spell0 g l e_33) my_X10_spell ml_X10_148 (pw_rec.of C e_33 cl_X10.1) rfl ⟨Nat.le_of_ble_eq_true rfl, Nat.le_of_ble_eq_true rfl⟩ ⟨by (try dsimp only); omega, by (try dsimp only); omega⟩ rfl (Nat.le_of_ble_eq_true rfl) dX10_said_41 ?_
  rintro _ _ ⟨rfl, rfl⟩
  refine pw_stk (st' := []) rfl ?_
  refine pw_aload_n (i := 0) C dX10_said_44 rfl rfl (Or.inr ⟨_, rfl⟩) ?_
  refine pw_iload C dX10_said_45 rfl ?_
  refine pw_callV (As := [.int (iZ 0)]) (st := []) C (m_X10_spell0 g l e_33) my_X10_spell ml_X10_148 (pw_rec.of C e_33 cl_X10.1) rfl ⟨Nat.le_of_ble_eq_true rfl, Nat.le_of_ble_eq_true rfl⟩ ⟨by (try dsimp only); omega, by (try dsimp only); omega⟩ rfl (Nat.le_of_ble_eq_true rfl) dX10_said_47 ?_
  rintro _ _ ⟨rfl, rfl⟩
  refine pw_stk (st' := []) rfl ?_
  refine pw_aload_n (i := 0) C dX10_said_50 rfl rfl (Or.inr ⟨_, rfl⟩) ?_
  have R_36 := hR.same (w' := w_32) (fun k hk => (o_35 k (by omega)).trans ((o_31 k (by omega)).trans ((o_27 k (by omega)).trans ((o_23 k (by omega)).trans ((o_19 k (by omega)).trans (o_12 k (by omega)))))))
  have hwa : ∀ k : Int, 0 ≤ k → k < ((5 : Nat) : Int) → atL ((upz (upz (upz (upz (upz fW 0 c1) 1 c2) 2 c3) 3 c4) 4 c5) k) = true := fun k k0 k1 => by
    have hk : k = 0 ∨ k = 1 ∨ k = 2 ∨ k = 3 ∨ k = 4 := by omega
    rcases hk with rfl | rfl | rfl | rfl | rfl
    · exact ac1
    · exact ac2
    · exact ac3
    · exact ac4
    · exact ac5
  refine pw_callV (As := []) (st := []) C (m_X10_symbol g l e_33 R_36 h7 h10 (m1 := 5) rfl e_34 (upz_inI (upz_inI (upz_inI (upz_inI (upz_inI u16 hc1) hc2) hc3) hc4) hc5) ⟨by decide, by decide⟩ hwa (by omega) (by omega)) my_X10_symbol ml_X10_152 (pw_rec.of C e_33 cl_X10.1) rfl ⟨Nat.le_of_ble_eq_true rfl, Nat.le_of_ble_eq_true rfl⟩ ⟨by (try dsimp only); omega, by (try dsimp only); omega⟩ rfl (Nat.le_of_ble_eq_true rfl) dX10_said_51 ?_
  rintro _ w9 ⟨z9, t9, n9, s9, Z9, rfl, e9, R9, x9, hn9, hs9, hZ9, v9, ho9⟩
  refine pw_stk (st' := [.int (iZ z9)]) rfl ?_
  refine pw_istore (lv' := [(0, .ref b), (1, .int (iZ c1)), (2, .int (iZ c2)), (3, .int (iZ c3)), (4, .int (iZ c4)), (5, .int (iZ c5)), (6, .int (iZ 0)), (7, .int (iZ 0)), (8, .int (iZ 0)), (9, .int (iZ z9))]) C dX10_said_54 (by decide) rfl ?_
  exact pw_vret C hr dX10_said_56 ⟨z9, t9, n9, s9, Z9, (upz (upz (upz (upz (upz fW 0 c1) 1 c2) 2 c3) 3 c4) 4 c5), rfl, by rw [e9]; rfl, R9, x9, hn9, hs9, v9, (ho9 1017 (by omega)).trans e_34, (upz_inI (upz_inI (upz_inI (upz_inI (upz_inI u16 hc1) hc2) hc3) hc4) hc5), fun k hk => (ho9 k (by omega)).trans ((o_35 k (by omega)).trans ((o_31 k (by omega)).trans ((o_27 k (by omega)).trans ((o_23 k (by omega)).trans ((o_19 k (by omega)).trans (o_12 k (by omega)))))))⟩

set_option maxRecDepth 100000 in
set_option maxHeartbeats 4000000 in
/-- said 6 -/
theorem m_X10_said6 (g : pw_P) (l : Launch) {w : pw_W} {b : Nat} {B : Nat → Nat} {x : Nat → Int} (h0 : w 1000 = (b, some (mdE B x))) {t : Int → Ob} {n : Int} {sN : Nat} {fZ : Int → Int} (hR : RS g w B t n sN fZ) (h7 : x 7 = n) (h10 : x 10 = ((sN : Nat) : Int)) {fW : Int → Int} (a16 : w 1017 = (B 16, some (AI g 12 fW))) (u16 : ∀ j, inI (fW j)) {c1 c2 c3 c4 c5 c6 : Int} (hc1 : inI c1) (nc1 : c1 ≠ 0) (ac1 : atL c1 = true) (hc2 : inI c2) (nc2 : c2 ≠ 0) (ac2 : atL c2 = true) (hc3 : inI c3) (nc3 : c3 ≠ 0) (ac3 : atL c3 = true) (hc4 : inI c4) (nc4 : c4 ≠ 0) (ac4 : atL c4 = true) (hc5 : inI c5) (nc5 : c5 ≠ 0) (ac5 : atL c5 = true) (hc6 : inI c6) (nc6 : c6 ≠ 0) (ac6 : atL c6 = true) (hcap : n < 40000) (hsc : sN < 4000) : pw_M g l yX10_said cX10_said 10 none { frames := 2, cells := 0, slots := 0, locals := 47 } [.ref b, .int (iZ c1), .int (iZ c2), .int (iZ c3), .int (iZ c4), .int (iZ c5), .int (iZ c6), .int (iZ 0), .int (iZ 0)] w (fun r w' => rSd g w w' b B x t n sN 6 (.index (spN [c1, c2, c3, c4, c5, c6])) r) := by
  refine pw_M.of (by decide) (Nat.le_of_ble_eq_true rfl) rfl ?_
  intro p e s m args below meth c C hr hn
  have hRn := hR.n
  refine pw_aload_n (i := 0) C dX10_said_0 rfl rfl (Or.inr ⟨_, rfl⟩) ?_
  refine pw_iconst C dX10_said_1 ?_
  refine pw_put (j := 17) C cl_X10 fl_X10_145 (by decide) rfl rfl rfl rfl rfl h0 (Nat.le_of_ble_eq_true rfl) dX10_said_2 (fun w_13 k_11 o_12 => ?_)
  have k_14 : w_13 1000 = (b, some (mdE B (va_up x 17 0))) := k_11
  refine pw_aload_n (i := 0) C dX10_said_5 rfl rfl (Or.inr ⟨_, rfl⟩) ?_
  refine pw_iload_n (i := 1) C dX10_said_6 rfl rfl ?_
  have c_15 := (o_12 1017 (by omega)).trans a16
  refine pw_callV (As := [.int (iZ c1)]) (st := []) C (m_X10_spell g l k_14 (m1 := 0) rfl c_15 u16 ⟨by decide, by decide⟩ hc1 nc1) my_X10_spell ml_X10_148 (pw_rec.of C k_14 cl_X10.1) rfl ⟨Nat.le_of_ble_eq_true rfl, Nat.le_of_ble_eq_true rfl⟩ ⟨by (try dsimp only); omega, by (try dsimp only); omega⟩ rfl (Nat.le_of_ble_eq_true rfl) dX10_said_7 ?_
  rintro _ w_16 ⟨rfl, e_17, e_18, o_19⟩
  refine pw_stk (st' := []) rfl ?_
  refine pw_aload_n (i := 0) C dX10_said_10 rfl rfl (Or.inr ⟨_, rfl⟩) ?_
  refine pw_iload_n (i := 2) C dX10_said_11 rfl rfl ?_
  refine pw_callV (As := [.int (iZ c2)]) (st := []) C (m_X10_spell g l e_17 (m1 := 1) rfl e_18 (upz_inI u16 hc1) ⟨by decide, by decide⟩ hc2 nc2) my_X10_spell ml_X10_148 (pw_rec.of C e_17 cl_X10.1) rfl ⟨Nat.le_of_ble_eq_true rfl, Nat.le_of_ble_eq_true rfl⟩ ⟨by (try dsimp only); omega, by (try dsimp only); omega⟩ rfl (Nat.le_of_ble_eq_true rfl) dX10_said_12 ?_
  rintro _ w_20 ⟨rfl, e_21, e_22, o_23⟩
  refine pw_stk (st' := []) rfl ?_
  refine pw_aload_n (i := 0) C dX10_said_15 rfl rfl (Or.inr ⟨_, rfl⟩) ?_
  refine pw_iload_n (i := 3) C dX10_said_16 rfl rfl ?_
  refine pw_callV (As := [.int (iZ c3)]) (st := []) C (m_X10_spell g l e_21 (m1 := 2) rfl e_22 (upz_inI (upz_inI u16 hc1) hc2) ⟨by decide, by decide⟩ hc3 nc3) my_X10_spell ml_X10_148 (pw_rec.of C e_21 cl_X10.1) rfl ⟨Nat.le_of_ble_eq_true rfl, Nat.le_of_ble_eq_true rfl⟩ ⟨by (try dsimp only); omega, by (try dsimp only); omega⟩ rfl (Nat.le_of_ble_eq_true rfl) dX10_said_17 ?_
  rintro _ w_24 ⟨rfl, e_25, e_26, o_27⟩
  refine pw_stk (st' := []) rfl ?_
  refine pw_aload_n (i := 0) C dX10_said_20 rfl rfl (Or.inr ⟨_, rfl⟩) ?_
  refine pw_iload C dX10_said_21 rfl ?_
  refine pw_callV (As := [.int (iZ c4)]) (st := []) C (m_X10_spell g l e_25 (m1 := 3) rfl e_26 (upz_inI (upz_inI (upz_inI u16 hc1) hc2) hc3) ⟨by decide, by decide⟩ hc4 nc4) my_X10_spell ml_X10_148 (pw_rec.of C e_25 cl_X10.1) rfl ⟨Nat.le_of_ble_eq_true rfl, Nat.le_of_ble_eq_true rfl⟩ ⟨by (try dsimp only); omega, by (try dsimp only); omega⟩ rfl (Nat.le_of_ble_eq_true rfl) dX10_said_23 ?_
  rintro _ w_28 ⟨rfl, e_29, e_30, o_31⟩
  refine pw_stk (st' := []) rfl ?_
  refine pw_aload_n (i := 0) C dX10_said_26 rfl rfl (Or.inr ⟨_, rfl⟩) ?_
  refine pw_iload C dX10_said_27 rfl ?_
  refine pw_callV (As := [.int (iZ c5)]) (st := []) C (m_X10_spell g l e_29 (m1 := 4) rfl e_30 (upz_inI (upz_inI (upz_inI (upz_inI u16 hc1) hc2) hc3) hc4) ⟨by decide, by decide⟩ hc5 nc5) my_X10_spell ml_X10_148 (pw_rec.of C e_29 cl_X10.1) rfl ⟨Nat.le_of_ble_eq_true rfl, Nat.le_of_ble_eq_true rfl⟩ ⟨by (try dsimp only); omega, by (try dsimp only); omega⟩ rfl (Nat.le_of_ble_eq_true rfl) dX10_said_29 ?_
  rintro _ w_32 ⟨rfl, e_33, e_34, o_35⟩
  refine pw_stk (st' := []) rfl ?_
  refine pw_aload_n (i := 0) C dX10_said_32 rfl rfl (Or.inr ⟨_, rfl⟩) ?_
  refine pw_iload C dX10_said_33 rfl ?_
  refine pw_callV (As := [.int (iZ c6)]) (st := []) C (m_X10_spell g l e_33 (m1 := 5) rfl e_34 (upz_inI (upz_inI (upz_inI (upz_inI (upz_inI u16 hc1) hc2) hc3) hc4) hc5) ⟨by decide, by decide⟩ hc6 nc6) my_X10_spell ml_X10_148 (pw_rec.of C e_33 cl_X10.1) rfl ⟨Nat.le_of_ble_eq_true rfl, Nat.le_of_ble_eq_true rfl⟩ ⟨by (try dsimp only); omega, by (try dsimp only); omega⟩ rfl (Nat.le_of_ble_eq_true rfl) dX10_said_35 ?_
  rintro _ w_36 ⟨rfl, e_37, e_38, o_39⟩
  refine pw_stk (st' := []) rfl ?_
  refine pw_aload_n (i := 0) C dX10_said_38 rfl rfl (Or.inr ⟨_, rfl⟩) ?_
  refine pw_iload C dX10_said_39 rfl ?_
  refine pw_callV (As := [.int (iZ 0)]) (st := []) C (m_X10_spell0 g l e_37) my_X10_spell ml_X10_148 (pw_rec.of C e_37 cl_X10.1) rfl ⟨Nat.le_of_ble_eq_true rfl, Nat.le_of_ble_eq_true rfl⟩ ⟨by (try dsimp only); omega, by (try dsimp only); omega⟩ rfl (Nat.le_of_ble_eq_true rfl) dX10_said_41 ?_
  rintro _ _ ⟨rfl, rfl⟩
  refine pw_stk (st' := []) rfl ?_
  refine pw_aload_n (i := 0) C dX10_said_44 rfl rfl (Or.inr ⟨_, rfl⟩) ?_
  refine pw_iload C dX10_said_45 rfl ?_
  refine pw_callV (As := [.int (iZ 0)]) (st := []) C (m_X10_spell0 g l e_37) my_X10_spell ml_X10_148 (pw_rec.of C e_37 cl_X10.1) rfl ⟨Nat.le_of_ble_eq_true rfl, Nat.le_of_ble_eq_true rfl⟩ ⟨by (try dsimp only); omega, by (try dsimp only); omega⟩ rfl (Nat.le_of_ble_eq_true rfl) dX10_said_47 ?_
  rintro _ _ ⟨rfl, rfl⟩
  refine pw_stk (st' := []) rfl ?_
  refine pw_aload_n (i := 0) C dX10_said_50 rfl rfl (Or.inr ⟨_, rfl⟩) ?_
  have R_40 := hR.same (w' := w_36) (fun k hk => (o_39 k (by omega)).trans ((o_35 k (by omega)).trans ((o_31 k (by omega)).trans ((o_27 k (by omega)).trans ((o_23 k (by omega)).trans ((o_19 k (by omega)).trans (o_12 k (by omega))))))))
  have hwa : ∀ k : Int, 0 ≤ k → k < ((6 : Nat) : Int) → atL ((upz (upz (upz (upz (upz (upz fW 0 c1) 1 c2) 2 c3) 3 c4) 4 c5) 5 c6) k) = true := fun k k0 k1 => by
    have hk : k = 0 ∨ k = 1 ∨ k = 2 ∨ k = 3 ∨ k = 4 ∨ k = 5 := by omega
    rcases hk with rfl | rfl | rfl | rfl | rfl | rfl
    · exact ac1
    · exact ac2
    · exact ac3
    · exact ac4
    · exact ac5
    · exact ac6
  refine pw_callV (As := []) (st := []) C (m_X10_symbol g l e_37 R_40 h7 h10 (m1 := 6) rfl e_38 (upz_inI (upz_inI (upz_inI (upz_inI (upz_inI (upz_inI u16 hc1) hc2) hc3) hc4) hc5) hc6) ⟨by decide, by decide⟩ hwa (by omega) (by omega)) my_X10_symbol ml_X10_152 (pw_rec.of C e_37 cl_X10.1) rfl ⟨Nat.le_of_ble_eq_true rfl, Nat.le_of_ble_eq_true rfl⟩ ⟨by (try dsimp only); omega, by (try dsimp only); omega⟩ rfl (Nat.le_of_ble_eq_true rfl) dX10_said_51 ?_
  rintro _ w9 ⟨z9, t9, n9, s9, Z9, rfl, e9, R9, x9, hn9, hs9, hZ9, v9, ho9⟩
  refine pw_stk (st' := [.int (iZ z9)]) rfl ?_
  refine pw_istore (lv' := [(0, .ref b), (1, .int (iZ c1)), (2, .int (iZ c2)), (3, .int (iZ c3)), (4, .int (iZ c4)), (5, .int (iZ c5)), (6, .int (iZ c6)), (7, .int (iZ 0)), (8, .int (iZ 0)), (9, .int (iZ z9))]) C dX10_said_54 (by decide) rfl ?_
  exact pw_vret C hr dX10_said_56 ⟨z9, t9, n9, s9, Z9, (upz (upz (upz (upz (upz (upz fW 0 c1) 1 c2) 2 c3) 3 c4) 4 c5) 5 c6), rfl, by rw [e9]; rfl, R9, x9, hn9, hs9, v9, (ho9 1017 (by omega)).trans e_38, (upz_inI (upz_inI (upz_inI (upz_inI (upz_inI (upz_inI u16 hc1) hc2) hc3) hc4) hc5) hc6), fun k hk => (ho9 k (by omega)).trans ((o_39 k (by omega)).trans ((o_35 k (by omega)).trans ((o_31 k (by omega)).trans ((o_27 k (by omega)).trans ((o_23 k (by omega)).trans ((o_19 k (by omega)).trans (o_12 k (by omega))))))))⟩

set_option maxRecDepth 100000 in
set_option maxHeartbeats 4000000 in
/-- said 7 -/
theorem m_X10_said7 (g : pw_P) (l : Launch) {w : pw_W} {b : Nat} {B : Nat → Nat} {x : Nat → Int} (h0 : w 1000 = (b, some (mdE B x))) {t : Int → Ob} {n : Int} {sN : Nat} {fZ : Int → Int} (hR : RS g w B t n sN fZ) (h7 : x 7 = n) (h10 : x 10 = ((sN : Nat) : Int)) {fW : Int → Int} (a16 : w 1017 = (B 16, some (AI g 12 fW))) (u16 : ∀ j, inI (fW j)) {c1 c2 c3 c4 c5 c6 c7 : Int} (hc1 : inI c1) (nc1 : c1 ≠ 0) (ac1 : atL c1 = true) (hc2 : inI c2) (nc2 : c2 ≠ 0) (ac2 : atL c2 = true) (hc3 : inI c3) (nc3 : c3 ≠ 0) (ac3 : atL c3 = true) (hc4 : inI c4) (nc4 : c4 ≠ 0) (ac4 : atL c4 = true) (hc5 : inI c5) (nc5 : c5 ≠ 0) (ac5 : atL c5 = true) (hc6 : inI c6) (nc6 : c6 ≠ 0) (ac6 : atL c6 = true) (hc7 : inI c7) (nc7 : c7 ≠ 0) (ac7 : atL c7 = true) (hcap : n < 40000) (hsc : sN < 4000) : pw_M g l yX10_said cX10_said 10 none { frames := 2, cells := 0, slots := 0, locals := 47 } [.ref b, .int (iZ c1), .int (iZ c2), .int (iZ c3), .int (iZ c4), .int (iZ c5), .int (iZ c6), .int (iZ c7), .int (iZ 0)] w (fun r w' => rSd g w w' b B x t n sN 7 (.index (spN [c1, c2, c3, c4, c5, c6, c7])) r) := by
  refine pw_M.of (by decide) (Nat.le_of_ble_eq_true rfl) rfl ?_
  intro p e s m args below meth c C hr hn
  have hRn := hR.n
  refine pw_aload_n (i := 0) C dX10_said_0 rfl rfl (Or.inr ⟨_, rfl⟩) ?_
  refine pw_iconst C dX10_said_1 ?_
  refine pw_put (j := 17) C cl_X10 fl_X10_145 (by decide) rfl rfl rfl rfl rfl h0 (Nat.le_of_ble_eq_true rfl) dX10_said_2 (fun w_13 k_11 o_12 => ?_)
  have k_14 : w_13 1000 = (b, some (mdE B (va_up x 17 0))) := k_11
  refine pw_aload_n (i := 0) C dX10_said_5 rfl rfl (Or.inr ⟨_, rfl⟩) ?_
  refine pw_iload_n (i := 1) C dX10_said_6 rfl rfl ?_
  have c_15 := (o_12 1017 (by omega)).trans a16
  refine pw_callV (As := [.int (iZ c1)]) (st := []) C (m_X10_spell g l k_14 (m1 := 0) rfl c_15 u16 ⟨by decide, by decide⟩ hc1 nc1) my_X10_spell ml_X10_148 (pw_rec.of C k_14 cl_X10.1) rfl ⟨Nat.le_of_ble_eq_true rfl, Nat.le_of_ble_eq_true rfl⟩ ⟨by (try dsimp only); omega, by (try dsimp only); omega⟩ rfl (Nat.le_of_ble_eq_true rfl) dX10_said_7 ?_
  rintro _ w_16 ⟨rfl, e_17, e_18, o_19⟩
  refine pw_stk (st' := []) rfl ?_
  refine pw_aload_n (i := 0) C dX10_said_10 rfl rfl (Or.inr ⟨_, rfl⟩) ?_
  refine pw_iload_n (i := 2) C dX10_said_11 rfl rfl ?_
  refine pw_callV (As := [.int (iZ c2)]) (st := []) C (m_X10_spell g l e_17 (m1 := 1) rfl e_18 (upz_inI u16 hc1) ⟨by decide, by decide⟩ hc2 nc2) my_X10_spell ml_X10_148 (pw_rec.of C e_17 cl_X10.1) rfl ⟨Nat.le_of_ble_eq_true rfl, Nat.le_of_ble_eq_true rfl⟩ ⟨by (try dsimp only); omega, by (try dsimp only); omega⟩ rfl (Nat.le_of_ble_eq_true rfl) dX10_said_12 ?_
  rintro _ w_20 ⟨rfl, e_21, e_22, o_23⟩
  refine pw_stk (st' := []) rfl ?_
  refine pw_aload_n (i := 0) C dX10_said_15 rfl rfl (Or.inr ⟨_, rfl⟩) ?_
  refine pw_iload_n (i := 3) C dX10_said_16 rfl rfl ?_
  refine pw_callV (As := [.int (iZ c3)]) (st := []) C (m_X10_spell g l e_21 (m1 := 2) rfl e_22 (upz_inI (upz_inI u16 hc1) hc2) ⟨by decide, by decide⟩ hc3 nc3) my_X10_spell ml_X10_148 (pw_rec.of C e_21 cl_X10.1) rfl ⟨Nat.le_of_ble_eq_true rfl, Nat.le_of_ble_eq_true rfl⟩ ⟨by (try dsimp only); omega, by (try dsimp only); omega⟩ rfl (Nat.le_of_ble_eq_true rfl) dX10_said_17 ?_
  rintro _ w_24 ⟨rfl, e_25, e_26, o_27⟩
  refine pw_stk (st' := []) rfl ?_
  refine pw_aload_n (i := 0) C dX10_said_20 rfl rfl (Or.inr ⟨_, rfl⟩) ?_
  refine pw_iload C dX10_said_21 rfl ?_
  refine pw_callV (As := [.int (iZ c4)]) (st := []) C (m_X10_spell g l e_25 (m1 := 3) rfl e_26 (upz_inI (upz_inI (upz_inI u16 hc1) hc2) hc3) ⟨by decide, by decide⟩ hc4 nc4) my_X10_spell ml_X10_148 (pw_rec.of C e_25 cl_X10.1) rfl ⟨Nat.le_of_ble_eq_true rfl, Nat.le_of_ble_eq_true rfl⟩ ⟨by (try dsimp only); omega, by (try dsimp only); omega⟩ rfl (Nat.le_of_ble_eq_true rfl) dX10_said_23 ?_
  rintro _ w_28 ⟨rfl, e_29, e_30, o_31⟩
  refine pw_stk (st' := []) rfl ?_
  refine pw_aload_n (i := 0) C dX10_said_26 rfl rfl (Or.inr ⟨_, rfl⟩) ?_
  refine pw_iload C dX10_said_27 rfl ?_
  refine pw_callV (As := [.int (iZ c5)]) (st := []) C (m_X10_spell g l e_29 (m1 := 4) rfl e_30 (upz_inI (upz_inI (upz_inI (upz_inI u16 hc1) hc2) hc3) hc4) ⟨by decide, by decide⟩ hc5 nc5) my_X10_spell ml_X10_148 (pw_rec.of C e_29 cl_X10.1) rfl ⟨Nat.le_of_ble_eq_true rfl, Nat.le_of_ble_eq_true rfl⟩ ⟨by (try dsimp only); omega, by (try dsimp only); omega⟩ rfl (Nat.le_of_ble_eq_true rfl) dX10_said_29 ?_
  rintro _ w_32 ⟨rfl, e_33, e_34, o_35⟩
  refine pw_stk (st' := []) rfl ?_
  refine pw_aload_n (i := 0) C dX10_said_32 rfl rfl (Or.inr ⟨_, rfl⟩) ?_
  refine pw_iload C dX10_said_33 rfl ?_
  refine pw_callV (As := [.int (iZ c6)]) (st := []) C (m_X10_spell g l e_33 (m1 := 5) rfl e_34 (upz_inI (upz_inI (upz_inI (upz_inI (upz_inI u16 hc1) hc2) hc3) hc4) hc5) ⟨by decide, by decide⟩ hc6 nc6) my_X10_spell ml_X10_148 (pw_rec.of C e_33 cl_X10.1) rfl ⟨Nat.le_of_ble_eq_true rfl, Nat.le_of_ble_eq_true rfl⟩ ⟨by (try dsimp only); omega, by (try dsimp only); omega⟩ rfl (Nat.le_of_ble_eq_true rfl) dX10_said_35 ?_
  rintro _ w_36 ⟨rfl, e_37, e_38, o_39⟩
  refine pw_stk (st' := []) rfl ?_
  refine pw_aload_n (i := 0) C dX10_said_38 rfl rfl (Or.inr ⟨_, rfl⟩) ?_
  refine pw_iload C dX10_said_39 rfl ?_
  refine pw_callV (As := [.int (iZ c7)]) (st := []) C (m_X10_spell g l e_37 (m1 := 6) rfl e_38 (upz_inI (upz_inI (upz_inI (upz_inI (upz_inI (upz_inI u16 hc1) hc2) hc3) hc4) hc5) hc6) ⟨by decide, by decide⟩ hc7 nc7) my_X10_spell ml_X10_148 (pw_rec.of C e_37 cl_X10.1) rfl ⟨Nat.le_of_ble_eq_true rfl, Nat.le_of_ble_eq_true rfl⟩ ⟨by (try dsimp only); omega, by (try dsimp only); omega⟩ rfl (Nat.le_of_ble_eq_true rfl) dX10_said_41 ?_
  rintro _ w_40 ⟨rfl, e_41, e_42, o_43⟩
  refine pw_stk (st' := []) rfl ?_
  refine pw_aload_n (i := 0) C dX10_said_44 rfl rfl (Or.inr ⟨_, rfl⟩) ?_
  refine pw_iload C dX10_said_45 rfl ?_
  refine pw_callV (As := [.int (iZ 0)]) (st := []) C (m_X10_spell0 g l e_41) my_X10_spell ml_X10_148 (pw_rec.of C e_41 cl_X10.1) rfl ⟨Nat.le_of_ble_eq_true rfl, Nat.le_of_ble_eq_true rfl⟩ ⟨by (try dsimp only); omega, by (try dsimp only); omega⟩ rfl (Nat.le_of_ble_eq_true rfl) dX10_said_47 ?_
  rintro _ _ ⟨rfl, rfl⟩
  refine pw_stk (st' := []) rfl ?_
  refine pw_aload_n (i := 0) C dX10_said_50 rfl rfl (Or.inr ⟨_, rfl⟩) ?_
  have R_44 := hR.same (w' := w_40) (fun k hk => (o_43 k (by omega)).trans ((o_39 k (by omega)).trans ((o_35 k (by omega)).trans ((o_31 k (by omega)).trans ((o_27 k (by omega)).trans ((o_23 k (by omega)).trans ((o_19 k (by omega)).trans (o_12 k (by omega)))))))))
  have hwa : ∀ k : Int, 0 ≤ k → k < ((7 : Nat) : Int) → atL ((upz (upz (upz (upz (upz (upz (upz fW 0 c1) 1 c2) 2 c3) 3 c4) 4 c5) 5 c6) 6 c7) k) = true := fun k k0 k1 => by
    have hk : k = 0 ∨ k = 1 ∨ k = 2 ∨ k = 3 ∨ k = 4 ∨ k = 5 ∨ k = 6 := by omega
    rcases hk with rfl | rfl | rfl | rfl | rfl | rfl | rfl
    · exact ac1
    · exact ac2
    · exact ac3
    · exact ac4
    · exact ac5
    · exact ac6
    · exact ac7
  refine pw_callV (As := []) (st := []) C (m_X10_symbol g l e_41 R_44 h7 h10 (m1 := 7) rfl e_42 (upz_inI (upz_inI (upz_inI (upz_inI (upz_inI (upz_inI (upz_inI u16 hc1) hc2) hc3) hc4) hc5) hc6) hc7) ⟨by decide, by decide⟩ hwa (by omega) (by omega)) my_X10_symbol ml_X10_152 (pw_rec.of C e_41 cl_X10.1) rfl ⟨Nat.le_of_ble_eq_true rfl, Nat.le_of_ble_eq_true rfl⟩ ⟨by (try dsimp only); omega, by (try dsimp only); omega⟩ rfl (Nat.le_of_ble_eq_true rfl) dX10_said_51 ?_
  rintro _ w9 ⟨z9, t9, n9, s9, Z9, rfl, e9, R9, x9, hn9, hs9, hZ9, v9, ho9⟩
  refine pw_stk (st' := [.int (iZ z9)]) rfl ?_
  refine pw_istore (lv' := [(0, .ref b), (1, .int (iZ c1)), (2, .int (iZ c2)), (3, .int (iZ c3)), (4, .int (iZ c4)), (5, .int (iZ c5)), (6, .int (iZ c6)), (7, .int (iZ c7)), (8, .int (iZ 0)), (9, .int (iZ z9))]) C dX10_said_54 (by decide) rfl ?_
  exact pw_vret C hr dX10_said_56 ⟨z9, t9, n9, s9, Z9, (upz (upz (upz (upz (upz (upz (upz fW 0 c1) 1 c2) 2 c3) 3 c4) 4 c5) 5 c6) 6 c7), rfl, by rw [e9]; rfl, R9, x9, hn9, hs9, v9, (ho9 1017 (by omega)).trans e_42, (upz_inI (upz_inI (upz_inI (upz_inI (upz_inI (upz_inI (upz_inI u16 hc1) hc2) hc3) hc4) hc5) hc6) hc7), fun k hk => (ho9 k (by omega)).trans ((o_43 k (by omega)).trans ((o_39 k (by omega)).trans ((o_35 k (by omega)).trans ((o_31 k (by omega)).trans ((o_27 k (by omega)).trans ((o_23 k (by omega)).trans ((o_19 k (by omega)).trans (o_12 k (by omega)))))))))⟩

