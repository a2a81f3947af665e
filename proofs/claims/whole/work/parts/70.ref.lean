theorem scF_ge {f : Int → Int} : ∀ (m : Nat) (i : Int) (d : Bool) (v p : Nat), v ≤ (scF f m i d v p).2.1
  | 0, i, d, v, p => Nat.le_refl _
  | m + 1, i, d, v, p => by
    rw [scF]
    refine Nat.le_trans ?_ (scF_ge m (i + 1) _ _ _)
    split <;> omega
theorem scF_f {f : Int → Int} : ∀ (m : Nat) (i : Int) (v p : Nat), (scF f m i false v p).1 = false
  | 0, i, v, p => rfl
  | m + 1, i, v, p => by rw [scF, Bool.false_and]; exact scF_f m (i + 1) _ _
theorem scF_dg {f : Int → Int} {m : Nat} {i : Int} {v p : Nat} (h : (scF f (m + 1) i true v p).1 = true) : isDg (f i) = true := by
  rw [scF, Bool.true_and] at h
  cases hd : isDg (f i) with
  | true => rfl
  | false => rw [hd, scF_f] at h; cases h
theorem scF_sp {f : Int → Int} {i : Int} : ∀ (m k : Nat) (d : Bool) (v : Nat), (scF f m (i + (k : Int)) d v (spW f i k)).2.2 = spW f i (k + m)
  | 0, k, d, v => rfl
  | m + 1, k, d, v => by
    rw [scF]
    have := scF_sp (f := f) (i := i) m (k + 1) (d && isDg (f (i + (k : Int)))) (if isDg (f (i + (k : Int))) then 10 * v + (f (i + (k : Int)) - 48).toNat else v)
    rw [show i + ((k + 1 : Nat) : Int) = i + (k : Int) + 1 by omega, show k + 1 + m = k + (m + 1) by omega] at this
    exact this
theorem scF_sp0 {f : Int → Int} {i : Int} (m : Nat) : (scF f m i true 0 0).2.2 = spW f i m := by
  have := scF_sp (f := f) (i := i) m 0 true 0
  rw [show i + ((0 : Nat) : Int) = i by omega, Nat.zero_add] at this
  exact this
/-- an atom of the reference -/
def rAtm (g : pw_P) (w w' : pw_W) (b : Nat) (B : Nat → Nat) (x : Nat → Int) (t : Int → Ob) (n : Int) (sN : Nat) (fZ : Int → Int) (X : Option Ob) (r : Option Value) : Prop :=
  ∃ (z : Int) (t' : Int → Ob) (n' : Int) (s' : Nat) (fZ' : Int → Int) (q' : Int) (fW' : Int → Int), r = some (.int (iZ z)) ∧ w' 1000 = (b, some (mdE B (va_up (va_up (va_up x 17 q') 7 n') 10 ((s' : Nat) : Int)))) ∧ RS g w' B t' n' s' fZ' ∧ Ext t n t' n' ∧ n' ≤ n + 1 ∧ s' ≤ sN + 1 ∧ (∀ j : Int, 0 ≤ j → j < n → fZ' j = fZ j) ∧ (match X with | some Y => Vl t' n' z Y | none => z = -1) ∧ w' 1017 = (B 16, some (AI g 12 fW')) ∧ (∀ j, inI (fW' j)) ∧ ∀ k, (k < 1000 ∨ k = 1008 ∨ (1010 < k ∧ k ≠ 1017)) → w' k = w k
set_option maxRecDepth 100000 in
set_option maxHeartbeats 4000000 in
/-- atom -/
theorem m_X10_atom (g : pw_P) (l : Launch) {w : pw_W} {b : Nat} {B : Nat → Nat} {x : Nat → Int} (h0 : w 1000 = (b, some (mdE B x))) {t : Int → Ob} {n : Int} {sN : Nat} {fZ : Int → Int} (hR : RS g w B t n sN fZ) (h7 : x 7 = n) (h10 : x 10 = ((sN : Nat) : Int)) (hK : RK t n) {f fW : Int → Int} (a12 : w 1013 = (B 12, some (AI g 3000 f))) (hfc : ∀ j, 0 ≤ f j ∧ f j < 256) (a16 : w 1017 = (B 16, some (AI g 12 fW))) (u16 : ∀ j, inI (fW j)) {i j : Int} (hi : 0 ≤ i ∧ i < j) (hj : j ≤ 3000) (hat : ∀ k, i ≤ k → k < j → atL (f k) = true) (hcap : n < 40000) (hsc : sN < 4000) : pw_M g l yX10_atom cX10_atom 7 (some .int) { frames := 2, cells := 0, slots := 0, locals := 47 } [.ref b, .int (iZ i), .int (iZ j)] w (fun r w' => rAtm g w w' b B x t n sN fZ (rAt f i j) r) := by
  refine pw_M.of (by decide) (Nat.le_of_ble_eq_true rfl) rfl ?_
  intro p e s m args below meth c C hr hn
  have hRn := hR.n
  have hfi : ∀ j, inI (f j) := fun j => by have := hfc j; omega
  have loop : ∀ (kk : Nat) (k : Int) (q : Bool) (v p1 : Nat), k + kk = j ∧ i ≤ k → scF f kk k q v p1 = (scF f (j - i).toNat i true 0 0) → pw_G g p l e { frames := 2, cells := 0, slots := 0, locals := 47 } s m args below meth c 7 (pw_Q g below (fun r w' => rAtm g w w' b B x t n sN fZ (rAt f i j) r) args s { frames := 2, cells := 0, slots := 0, locals := 47 }) 0 0 5 [(0, .ref b), (1, .int (iZ i)), (2, .int (iZ j)), (3, .int (iZ (b2i q))), (4, .int (iZ k))] [] w := by
    intro kk
    induction kk with
    | zero =>
      intro k q v p1 hk hq
      refine pw_iload C dX10_atom_5 rfl ?_
      refine pw_iload_n (i := 2) C dX10_atom_7 rfl rfl ?_
      refine pw_icmp_ge (tgt := 40) C (by omega) (by omega) dX10_atom_8 (by decide) (fun h_601 => ?_) (fun h_601 => ?_)
      · refine pw_iload_n (i := 3) C dX10_atom_40 rfl rfl ?_
        refine pw_if_eqB (tgt := 117) C dX10_atom_41 (by decide) (fun h_602 => ?_) (fun h_602 => ?_)
        · have hd1 : (scF f (j - i).toNat i true 0 0).1 = false := by rw [← hq]; exact h_602
          rw [h_602]
          refine pw_sub [0, 1, 2, 3] rfl ?_
          refine pw_iload_n (i := 2) C dX10_atom_117 rfl rfl ?_
          refine pw_iload_n (i := 1) C dX10_atom_118 rfl rfl ?_
          refine pw_isub C dX10_atom_119 ?_
          refine pw_bipush C dX10_atom_120 (by decide) ?_
          refine pw_icmp_le (tgt := 127) C (by omega) (by omega) dX10_atom_122 (by decide) (fun h_603 => ?_) (fun h_603 => ?_)
          · refine pw_aload_n (i := 0) C dX10_atom_127 rfl rfl (Or.inr ⟨_, rfl⟩) ?_
            refine pw_iconst C dX10_atom_128 ?_
            refine pw_put (j := 17) C cl_X10 fl_X10_145 (by decide) rfl rfl rfl rfl rfl h0 (Nat.le_of_ble_eq_true rfl) dX10_atom_129 (fun w_606 k_604 o_605 => ?_)
            have k_607 : w_606 1000 = (b, some (mdE B (va_up x 17 0))) := k_604
            refine pw_iload_n (i := 1) C dX10_atom_132 rfl rfl ?_
            refine pw_istore (lv' := [(0, .ref b), (1, .int (iZ i)), (2, .int (iZ j)), (3, .int (iZ (b2i false))), (4, .int (iZ i))]) C dX10_atom_133 (by decide) rfl ?_
            have loop3 : ∀ (kk : Nat) (w3 : pw_W) (k : Nat) (g3 : Int → Int), i + ((k : Nat) : Int) + kk = j → w3 1000 = (b, some (mdE B (va_up x 17 ((k : Nat) : Int)))) → w3 1017 = (B 16, some (AI g 12 g3)) → (∀ j, inI (g3 j)) → (∀ m : Int, 0 ≤ m → m < k → g3 m = f (i + m)) → (∀ q, (q ≠ 1000 ∧ q ≠ 1017) → w3 q = w q) → pw_G g p l e { frames := 2, cells := 0, slots := 0, locals := 47 } s m args below meth c 7 (pw_Q g below (fun r w' => rAtm g w w' b B x t n sN fZ (rAt f i j) r) args s { frames := 2, cells := 0, slots := 0, locals := 47 }) 0 0 135 [(0, .ref b), (1, .int (iZ i)), (2, .int (iZ j)), (3, .int (iZ (b2i false))), (4, .int (iZ (i + ((k : Nat) : Int))))] [] w3 := by
              intro kk
              induction kk with
              | zero =>
                intro w3 k g3 hk y0 y16 g16 hw3 hf3
                have y12 := (hf3 1013 (by omega)).trans a12
                refine pw_iload C dX10_atom_135 rfl ?_
                refine pw_iload_n (i := 2) C dX10_atom_137 rfl rfl ?_
                refine pw_icmp_ge (tgt := 158) C (by omega) (by omega) dX10_atom_138 (by decide) (fun h_201 => ?_) (fun h_201 => ?_)
                · refine pw_aload_n (i := 0) C dX10_atom_158 rfl rfl (Or.inr ⟨_, rfl⟩) ?_
                  have hR3 := hR.same (w' := w3) (fun k hk => hf3 k (by omega))
                  refine pw_callV (As := []) (st := []) C (m_X10_symbol g l y0 hR3 h7 h10 (m1 := k) rfl y16 g16 (by omega) (fun m m0 m1 => by rw [hw3 m m0 (by omega)]; exact hat _ (by omega) (by omega)) (by omega) (by omega)) my_X10_symbol ml_X10_152 (pw_rec.of C y0 cl_X10.1) rfl ⟨Nat.le_of_ble_eq_true rfl, Nat.le_of_ble_eq_true rfl⟩ ⟨by (try dsimp only); omega, by (try dsimp only); omega⟩ rfl (Nat.le_of_ble_eq_true rfl) dX10_atom_159 ?_
                  rintro _ w5 ⟨z2, t2, n2, s2, Z2, rfl, e0, R2, x2, hn2, hs2, hZ2, hz2, ho2⟩
                  refine pw_stk (st' := [.int (iZ z2)]) rfl ?_
                  have hsp : spW g3 0 k = (scF f (j - i).toNat i true 0 0).2.2 := by rw [scF_sp0, show (j - i).toNat = k by omega]; exact spW_eq k (fun m m0 m1 => by rw [Int.zero_add]; exact hw3 m m0 m1)
                  exact pw_iret C hr dX10_atom_162 ⟨z2, t2, n2, s2, Z2, ((k : Nat) : Int), g3, rfl, e0, R2, x2, hn2, hs2, hZ2, by rw [rAt_s (v := (scF f (j - i).toNat i true 0 0).2.1) (p := (scF f (j - i).toNat i true 0 0).2.2) (Prod.ext hd1 rfl), if_pos (by omega), ← hsp]; exact hz2, (ho2 1017 (by omega)).trans y16, g16, fun q hq => (ho2 q (by omega)).trans (hf3 q (by omega))⟩
                · exfalso; omega
              | succ kk ih3 =>
                intro w3 k g3 hk y0 y16 g16 hw3 hf3
                have y12 := (hf3 1013 (by omega)).trans a12
                refine pw_iload C dX10_atom_135 rfl ?_
                refine pw_iload_n (i := 2) C dX10_atom_137 rfl rfl ?_
                refine pw_icmp_ge (tgt := 158) C (by omega) (by omega) dX10_atom_138 (by decide) (fun h_301 => ?_) (fun h_301 => ?_)
                · exfalso; omega
                · refine pw_aload_n (i := 0) C dX10_atom_141 rfl rfl (Or.inr ⟨_, rfl⟩) ?_
                  refine pw_aload_n (i := 0) C dX10_atom_142 rfl rfl (Or.inr ⟨_, rfl⟩) ?_
                  refine pw_get (j := 12) C cl_X10 fl_X10_43 (by decide) rfl y0 rfl dX10_atom_143 ?_
                  refine pw_stk (st' := [.ref (B 12), .ref b]) rfl ?_
                  refine pw_iload C dX10_atom_146 rfl ?_
                  have g_302 := hfi (i + ((k : Nat) : Int))
                  refine pw_iald C y12 ⟨by omega, by omega, by omega⟩ dX10_atom_148 ?_
                  have hak := hat (i + ((k : Nat) : Int)) (by omega) (by omega)
                  have hnz : f (i + ((k : Nat) : Int)) ≠ 0 := fun e => by rw [e, atL_0] at hak; cases hak
                  refine pw_callV (As := [.int (iZ (f (i + ((k : Nat) : Int))))]) (st := []) C (m_X10_spell g l y0 (m1 := ((k : Nat) : Int)) rfl y16 g16 (c0 := f (i + ((k : Nat) : Int))) (by omega) (hfi _) hnz) my_X10_spell ml_X10_148 (pw_rec.of C y0 cl_X10.1) rfl ⟨Nat.le_of_ble_eq_true rfl, Nat.le_of_ble_eq_true rfl⟩ ⟨by (try dsimp only); omega, by (try dsimp only); omega⟩ rfl (Nat.le_of_ble_eq_true rfl) dX10_atom_149 ?_
                  rintro _ w4 ⟨rfl, e40, e41, ho4⟩
                  refine pw_stk (st' := []) rfl ?_
                  refine pw_iinc (lv' := [(0, .ref b), (1, .int (iZ i)), (2, .int (iZ j)), (3, .int (iZ (b2i false))), (4, .int (iZ ((i + ((k : Nat) : Int)) + 1)))]) C dX10_atom_152 rfl (by decide) rfl ?_
                  refine pw_goto (tgt := 135) C dX10_atom_155 (by decide) ?_
                  rw [show i + ((k : Nat) : Int) + 1 = i + ((k + 1 : Nat) : Int) by omega]
                  refine ih3 w4 (k + 1) _ (by omega) (by rw [e40, show ((k : Nat) : Int) + 1 = ((k + 1 : Nat) : Int) by omega]; rfl) e41 (upz_inI g16 (hfi _)) (fun m m0 m1 => ?_) (fun q hq => (ho4 q (by omega)).trans (hf3 q hq))
                  by_cases e : m = k
                  · rw [e, upz_self]
                  · rw [upz_ne _ _ e]; exact hw3 m m0 (by omega)
            have hgo := loop3 (j - i).toNat w_606 0 fW (by omega) k_607 (((o_605 1017 (by omega))).trans a16) u16 (fun m m0 m1 => absurd m1 (by omega)) (fun q hq => (o_605 q hq.1))
            rw [show i + ((0 : Nat) : Int) = i by omega] at hgo
            exact hgo
          · refine pw_iconst C dX10_atom_125 ?_
            exact pw_iret C hr dX10_atom_126 ⟨-1, t, n, sN, fZ, x 17, fW, rfl, by rw [← h7, ← h10]; exact h0, hR, Ext.rf, by omega, by omega, fun _ _ _ => rfl, by rw [rAt_s (v := (scF f (j - i).toNat i true 0 0).2.1) (p := (scF f (j - i).toNat i true 0 0).2.2) (Prod.ext hd1 rfl), if_neg (by omega)], a16, u16, fun _ _ => rfl⟩
        · have hd1 : (scF f (j - i).toNat i true 0 0).1 = true := by rw [← hq]; exact h_602
          rw [h_602]
          refine pw_sub [0, 1, 2, 3] rfl ?_
          refine pw_lconst (z := 0) C dX10_atom_44 (by decide) ?_
          refine pw_lstore (lv' := [(0, .ref b), (1, .int (iZ i)), (2, .int (iZ j)), (3, .int (iZ (b2i true))), (4, .long (lZ 0))]) C dX10_atom_45 (by decide) rfl ?_
          refine pw_iload_n (i := 1) C dX10_atom_47 rfl rfl ?_
          refine pw_istore (lv' := [(0, .ref b), (1, .int (iZ i)), (2, .int (iZ j)), (3, .int (iZ (b2i true))), (4, .long (lZ 0)), (6, .int (iZ i))]) C dX10_atom_48 (by decide) rfl ?_
          have loop2 : ∀ (kk : Nat) (k : Int) (v p1 : Nat), k + kk = j ∧ i ≤ k → scF f kk k true v p1 = (scF f (j - i).toNat i true 0 0) → v ≤ 4611686018427387903 → pw_G g p l e { frames := 2, cells := 0, slots := 0, locals := 47 } s m args below meth c 7 (pw_Q g below (fun r w' => rAtm g w w' b B x t n sN fZ (rAt f i j) r) args s { frames := 2, cells := 0, slots := 0, locals := 47 }) 0 0 50 [(0, .ref b), (1, .int (iZ i)), (2, .int (iZ j)), (3, .int (iZ (b2i true))), (4, .long (lZ ((v : Nat) : Int))), (6, .int (iZ k))] [] w := by
            intro kk
            induction kk with
            | zero =>
              intro k v p1 hk hq hvm
              refine pw_iload C dX10_atom_50 rfl ?_
              refine pw_iload_n (i := 2) C dX10_atom_52 rfl rfl ?_
              refine pw_icmp_ge (tgt := 110) C (by omega) (by omega) dX10_atom_53 (by decide) (fun h_11 => ?_) (fun h_11 => ?_)
              · refine pw_aload_n (i := 0) C dX10_atom_110 rfl rfl (Or.inr ⟨_, rfl⟩) ?_
                refine pw_lload C dX10_atom_111 rfl ?_
                refine pw_callV (As := [.long (lZ ((v : Nat) : Int))]) (st := []) C (m_X10_natural g l h0 hR h7 h10 (v := v) (by omega) (by omega)) my_X10_natural ml_X10_232 (pw_rec.of C h0 cl_X10.1) rfl ⟨Nat.le_of_ble_eq_true rfl, Nat.le_of_ble_eq_true rfl⟩ ⟨by (try dsimp only); omega, by (try dsimp only); omega⟩ rfl (Nat.le_of_ble_eq_true rfl) dX10_atom_113 ?_
                rintro _ w2 ⟨z2, t2, n2, s2, Z2, rfl, e0, R2, x2, hn2, hs2, hZ2, hz2, ho2⟩
                refine pw_stk (st' := [.int (iZ z2)]) rfl ?_
                have hqv : v = (scF f (j - i).toNat i true 0 0).2.1 := by rw [← hq]; rfl
                exact pw_iret C hr dX10_atom_116 ⟨z2, t2, n2, s2, Z2, x 17, fW, rfl, by rw [e0]; rfl, R2, x2, hn2, by omega, hZ2, by rw [rAt_d (v := (scF f (j - i).toNat i true 0 0).2.1) (p := (scF f (j - i).toNat i true 0 0).2.2) (Prod.ext hd1 rfl), if_pos (by omega), ← hqv]; exact hz2, (ho2 1017 (by omega)).trans a16, u16, fun k hk => ho2 k (by omega)⟩
              · exfalso; omega
            | succ kk ih2 =>
              intro k v p1 hk hq hvm
              refine pw_iload C dX10_atom_50 rfl ?_
              refine pw_iload_n (i := 2) C dX10_atom_52 rfl rfl ?_
              refine pw_icmp_ge (tgt := 110) C (by omega) (by omega) dX10_atom_53 (by decide) (fun h_101 => ?_) (fun h_101 => ?_)
              · exfalso; omega
              · have hdg : isDg (f k) = true := scF_dg (by rw [hq]; exact hd1)
                have hdr := of_decide_eq_true hdg
                refine pw_lload C dX10_atom_56 rfl ?_
                refine pw_ldc2 (z := 4611686018427387903) C kj_X10_226 (by decide) dX10_atom_58 ?_
                refine pw_aload_n (i := 0) C dX10_atom_61 rfl rfl (Or.inr ⟨_, rfl⟩) ?_
                refine pw_get (j := 12) C cl_X10 fl_X10_43 (by decide) rfl h0 rfl dX10_atom_62 ?_
                refine pw_stk (st' := [.ref (B 12), .long (lZ 4611686018427387903), .long (lZ ((v : Nat) : Int))]) rfl ?_
                refine pw_iload C dX10_atom_65 rfl ?_
                have g_102 := hfi k
                refine pw_iald C a12 ⟨by omega, by omega, by omega⟩ dX10_atom_67 ?_
                refine pw_bipush C dX10_atom_68 (by decide) ?_
                refine pw_isub C dX10_atom_70 ?_
                refine pw_i2l C (by omega) dX10_atom_71 ?_
                refine pw_lsub C dX10_atom_72 ?_
                refine pw_ldc2 (z := 10) C kj_X10_228 (by decide) dX10_atom_73 ?_
                refine pw_ldiv C ⟨by omega, by omega⟩ ⟨by omega, by omega⟩ dX10_atom_76 ?_
                refine pw_lcmp C (by omega) (by omega) dX10_atom_77 ?_
                refine pw_if_le (tgt := 83) C (cmpZ_in _ _) dX10_atom_78 (by decide) (fun h_103 => ?_) (fun h_103 => ?_)
                · have h_103 := cmpZ_le1 h_103
                  refine pw_ldc2 (z := 10) C kj_X10_228 (by decide) dX10_atom_83 ?_
                  refine pw_lload C dX10_atom_86 rfl ?_
                  refine pw_lmul C dX10_atom_88 ?_
                  refine pw_aload_n (i := 0) C dX10_atom_89 rfl rfl (Or.inr ⟨_, rfl⟩) ?_
                  refine pw_get (j := 12) C cl_X10 fl_X10_43 (by decide) rfl h0 rfl dX10_atom_90 ?_
                  refine pw_stk (st' := [.ref (B 12), .long (lZ (10 * ((v : Nat) : Int)))]) rfl ?_
                  refine pw_iload C dX10_atom_93 rfl ?_
                  have g_104 := hfi k
                  refine pw_iald C a12 ⟨by omega, by omega, by omega⟩ dX10_atom_95 ?_
                  refine pw_i2l C (by omega) dX10_atom_96 ?_
                  refine pw_ladd C dX10_atom_97 ?_
                  refine pw_ldc2 (z := 48) C kj_X10_230 (by decide) dX10_atom_98 ?_
                  refine pw_lsub C dX10_atom_101 ?_
                  refine pw_lstore (lv' := [(0, .ref b), (1, .int (iZ i)), (2, .int (iZ j)), (3, .int (iZ (b2i true))), (4, .long (lZ (((10 * ((v : Nat) : Int)) + f k) - 48))), (6, .int (iZ k))]) C dX10_atom_102 (by decide) rfl ?_
                  refine pw_iinc (lv' := [(0, .ref b), (1, .int (iZ i)), (2, .int (iZ j)), (3, .int (iZ (b2i true))), (4, .long (lZ (((10 * ((v : Nat) : Int)) + f k) - 48))), (6, .int (iZ (k + 1)))]) C dX10_atom_104 rfl (by decide) rfl ?_
                  refine pw_goto (tgt := 50) C dX10_atom_107 (by decide) ?_
                  have hvv : ((10 * v + (f k - 48).toNat : Nat) : Int) = 10 * ((v : Nat) : Int) + f k - 48 := by omega
                  rw [← hvv]
                  exact ih2 (k + 1) (10 * v + (f k - 48).toNat) (p1 * 47 + (ixZ 1 (f k)).toNat) (by omega) (by rw [← hq, scF, hdg, Bool.true_and, if_pos rfl]) (by omega)
                · have h_103 := cmpZ_gt1 h_103
                  refine pw_iconst C dX10_atom_81 ?_
                  exact pw_iret C hr dX10_atom_82 ⟨-1, t, n, sN, fZ, x 17, fW, rfl, by rw [← h7, ← h10]; exact h0, hR, Ext.rf, by omega, by omega, fun _ _ _ => rfl, by rw [rAt_d (v := (scF f (j - i).toNat i true 0 0).2.1) (p := (scF f (j - i).toNat i true 0 0).2.2) (Prod.ext hd1 rfl), if_neg (by have h1 := scF_ge (f := f) kk (k + 1) true (10 * v + (f k - 48).toNat) (p1 * 47 + (ixZ 1 (f k)).toNat); rw [scF, hdg, Bool.true_and, if_pos rfl] at hq; rw [← hq]; omega)], a16, u16, fun _ _ => rfl⟩
          exact loop2 (j - i).toNat i 0 0 (by omega) rfl (by decide)
      · exfalso; omega
    | succ kk ih =>
      intro k q v p1 hk hq
      refine pw_iload C dX10_atom_5 rfl ?_
      refine pw_iload_n (i := 2) C dX10_atom_7 rfl rfl ?_
      refine pw_icmp_ge (tgt := 40) C (by omega) (by omega) dX10_atom_8 (by decide) (fun h_701 => ?_) (fun h_701 => ?_)
      · exfalso; omega
      · refine pw_iload_n (i := 3) C dX10_atom_11 rfl rfl ?_
        refine pw_if_eqB (tgt := 32) C dX10_atom_12 (by decide) (fun h_702 => ?_) (fun h_702 => ?_)
        · refine pw_iconst C dX10_atom_32 ?_
          refine pw_istore_n (i := 3) (lv' := [(0, .ref b), (1, .int (iZ i)), (2, .int (iZ j)), (3, .int (iZ 0)), (4, .int (iZ k))]) C dX10_atom_33 rfl (by decide) rfl ?_
          refine pw_iinc (lv' := [(0, .ref b), (1, .int (iZ i)), (2, .int (iZ j)), (3, .int (iZ 0)), (4, .int (iZ (k + 1)))]) C dX10_atom_34 rfl (by decide) rfl ?_
          refine pw_goto (tgt := 5) C dX10_atom_37 (by decide) ?_
          exact ih (k + 1) false _ _ (by omega) (by rw [← hq, scF, h_702, Bool.false_and])
        · refine pw_aload_n (i := 0) C dX10_atom_15 rfl rfl (Or.inr ⟨_, rfl⟩) ?_
          refine pw_get (j := 12) C cl_X10 fl_X10_43 (by decide) rfl h0 rfl dX10_atom_16 ?_
          refine pw_stk (st' := [.ref (B 12)]) rfl ?_
          refine pw_iload C dX10_atom_19 rfl ?_
          have g_703 := hfi k
          refine pw_iald C a12 ⟨by omega, by omega, by omega⟩ dX10_atom_21 ?_
          have hfk := hfc k
          refine pw_callS (As := [.int (iZ (f k))]) (st := []) C (m_X10_isDigit g l (c0 := f k) (by omega)) my_X10_isDigit ml_X10_198 rfl ⟨Nat.le_of_ble_eq_true rfl, Nat.le_of_ble_eq_true rfl⟩ ⟨by (try dsimp only); omega, by (try dsimp only); omega⟩ rfl (Nat.le_of_ble_eq_true rfl) dX10_atom_22 ?_
          rintro _ _ ⟨rfl, rfl⟩
          refine pw_stk (st' := [.int (iZ (b2i (isDg (f k))))]) rfl ?_
          refine pw_if_eqB (tgt := 32) C dX10_atom_25 (by decide) (fun h_704 => ?_) (fun h_704 => ?_)
          · refine pw_iconst C dX10_atom_32 ?_
            refine pw_istore_n (i := 3) (lv' := [(0, .ref b), (1, .int (iZ i)), (2, .int (iZ j)), (3, .int (iZ 0)), (4, .int (iZ k))]) C dX10_atom_33 rfl (by decide) rfl ?_
            refine pw_iinc (lv' := [(0, .ref b), (1, .int (iZ i)), (2, .int (iZ j)), (3, .int (iZ 0)), (4, .int (iZ (k + 1)))]) C dX10_atom_34 rfl (by decide) rfl ?_
            refine pw_goto (tgt := 5) C dX10_atom_37 (by decide) ?_
            exact ih (k + 1) false _ _ (by omega) (by rw [← hq, scF, h_704, Bool.and_false])
          · refine pw_iconst C dX10_atom_28 ?_
            refine pw_goto (tgt := 33) C dX10_atom_29 (by decide) ?_
            refine pw_istore_n (i := 3) (lv' := [(0, .ref b), (1, .int (iZ i)), (2, .int (iZ j)), (3, .int (iZ 1)), (4, .int (iZ k))]) C dX10_atom_33 rfl (by decide) rfl ?_
            refine pw_iinc (lv' := [(0, .ref b), (1, .int (iZ i)), (2, .int (iZ j)), (3, .int (iZ 1)), (4, .int (iZ (k + 1)))]) C dX10_atom_34 rfl (by decide) rfl ?_
            refine pw_goto (tgt := 5) C dX10_atom_37 (by decide) ?_
            exact ih (k + 1) true _ _ (by omega) (by rw [← hq, scF, h_702, h_704, Bool.and_true])
  refine pw_iconst C dX10_atom_0 ?_
  refine pw_istore_n (i := 3) (lv' := [(0, .ref b), (1, .int (iZ i)), (2, .int (iZ j)), (3, .int (iZ 1))]) C dX10_atom_1 rfl (by decide) rfl ?_
  refine pw_iload_n (i := 1) C dX10_atom_2 rfl rfl ?_
  refine pw_istore (lv' := [(0, .ref b), (1, .int (iZ i)), (2, .int (iZ j)), (3, .int (iZ 1)), (4, .int (iZ i))]) C dX10_atom_3 (by decide) rfl ?_
  exact loop (j - i).toNat i true 0 0 (by omega) rfl

