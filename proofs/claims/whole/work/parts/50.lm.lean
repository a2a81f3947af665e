theorem iz_ushrZ {a y : Int} (hy : y = 24 ∨ y = 16 ∨ y = 8 ∨ y = 0) : ((iZ a).toUInt32 >>> ((iZ y).toUInt32 &&& Int32.toUInt32 31)).toInt32 = iZ (a % 4294967296 / ((2 ^ y.toNat : Nat) : Int)) := by
  rcases hy with rfl | rfl | rfl | rfl
  · exact iz_ushr (s := 24) (Or.inl rfl)
  · exact iz_ushr (s := 16) (Or.inr (Or.inl rfl))
  · exact iz_ushr (s := 8) (Or.inr (Or.inr (Or.inl rfl)))
  · exact iz_ushr (s := 0) (Or.inr (Or.inr (Or.inr rfl)))
/-- the text, longer by so many of what waits -/
def apF (f : Int → Int) (len : Nat) (b : Int → Int) : Nat → Int → Int
  | 0 => f
  | k + 1 => upz (apF f len b k) ((len : Int) + k) (b k)
theorem apF_in {f b : Int → Int} {len : Nat} (hf : ∀ j, 0 ≤ f j ∧ f j < 256) (hb : ∀ j, 0 ≤ b j ∧ b j < 256) : ∀ (k : Nat) (j : Int), 0 ≤ apF f len b k j ∧ apF f len b k j < 256
  | 0, j => hf j
  | k + 1, j => by simp only [apF, upz]; split <;> first | exact hb k | exact apF_in hf hb k j
theorem tOk.le {t : Int → Ob} {n m : Int} (h : tOk t n) (hm : m ≤ n) : tOk t m := fun i h0 h1 => h i h0 (by omega)
theorem obLen_sp : ∀ x : Ob, obLen x ≤ spL x := by
  intro x
  induction x with
  | add a b ha hb => simp only [obLen, spL]; split <;> omega
  | _ => simp only [obLen, spL]; split <;> omega
theorem mxL_car (x : Ob) : mxL (obCar x) ≤ mxL x := by cases x <;> simp only [obCar, mxL, oNil] <;> omega
theorem mxL_cdr (x : Ob) : mxL (obCdr x) ≤ mxL x := by cases x <;> simp only [obCdr, mxL, oNil] <;> omega
/-- a run: what is read, then the command -/
def rnF (T : List Dn) (fu nk : Nat) (R : Nat × Int × Ob) : Cr × List Dn := if R.1 = 0 then cmdF T fu nk R.2.2 else ((1, none, 0, 0, nk), T)
def ouF (c : Cr) : List Int := if c.1 = 0 then (match c.2.1 with | some Y => (otx Y).1 | none => []) else []
set_option maxRecDepth 100000 in
set_option maxHeartbeats 4000000 in
/-- end -/
theorem m_X9_end (g : pw_P) (l : Launch) {w : pw_W} {A : Nat → Nat} {wt f : Int → Int} {len rf : Nat} {rp : Int} {fu sp wf : Nat} {T : List Dn} {L : List Int} {nk cap : Nat} {kp : Int} (hL : LmI g w A wt f len rf rp fu sp wf T L nk cap kp) {x : Int} (hx : inI x) : pw_M g l yX9_end cX9_end 3 (some .int) { frames := 1, cells := 0, slots := 0, locals := 23 } [.ref (A 0), .int (iZ x)] w (fun r w' => (if (0 ≤ x ∧ x ≤ 20 ∧ (len : Int) + x ≤ 3000) then r = some (.int (iZ ((len : Int) + x))) ∧ ∃ wt', (∀ j : Int, 0 ≤ j → j < 5 → wt' j = 0) ∧ LmI g w' A wt' (apF f len (wbA wt) x.toNat) (len + x.toNat) rf rp fu sp wf T L nk cap kp else r = some (.int (iZ (-1))) ∧ LmI g w' A wt f len rf rp fu sp wf T L nk cap kp) ∧ ∀ k, 899 < k → w' k = w k) := by
  refine pw_M.of (by decide) (Nat.le_of_ble_eq_true rfl) rfl ?_
  intro p e s m args below meth c C hr hn
  obtain ⟨t, n, rs, D, ds, q, c0, c1, c2, c3, c4, c5, c6, c7, c8, c9, c10, c11, c12, c13, c14, c15, c16, c17⟩ := id hL
  obtain ⟨ic0, op0, wd0, am0, sp00, dg0, it0, fi0, aw0, k80, -⟩ := id c4
  refine pw_iload_n (i := 1) C dX9_end_0 rfl rfl ?_
  refine pw_if_lt (tgt := 25) C (by omega) dX9_end_1 (by decide) (fun h_101 => ?_) (fun h_101 => ?_)
  · refine pw_iconst C dX9_end_25 ?_
    exact pw_iret C hr dX9_end_26 ⟨by rw [if_neg (by omega)]; exact ⟨rfl, hL⟩, fun _ _ => rfl⟩
  · refine pw_iload_n (i := 1) C dX9_end_4 rfl rfl ?_
    refine pw_bipush C dX9_end_5 (by decide) ?_
    refine pw_icmp_gt (tgt := 25) C (by omega) (by omega) dX9_end_7 (by decide) (fun h_102 => ?_) (fun h_102 => ?_)
    · refine pw_iconst C dX9_end_25 ?_
      exact pw_iret C hr dX9_end_26 ⟨by rw [if_neg (by omega)]; exact ⟨rfl, hL⟩, fun _ _ => rfl⟩
    · refine pw_iload_n (i := 1) C dX9_end_10 rfl rfl ?_
      refine pw_sipush C dX9_end_11 (by decide) ?_
      refine pw_aload_n (i := 0) C dX9_end_14 rfl rfl (Or.inr ⟨_, rfl⟩) ?_
      refine pw_get (j := 2) C cl_X9 fl_X9_25 (by decide) rfl c0 rfl dX9_end_15 ?_
      refine pw_getN (j := 2) C cl_X5 fn_X9_61 (by decide) rfl k80 rfl dX9_end_18 ?_
      refine pw_isub C dX9_end_21 ?_
      refine pw_icmp_le (tgt := 27) C (by omega) (by omega) dX9_end_22 (by decide) (fun h_103 => ?_) (fun h_103 => ?_)
      · refine pw_iconst C dX9_end_27 ?_
        refine pw_istore_n (i := 2) (lv' := [(0, .ref (A 0)), (1, .int (iZ x)), (2, .int (iZ 0))]) C dX9_end_28 rfl (by decide) rfl ?_
        have loop : ∀ (kk : Nat) (w1 : pw_W) (k : Nat), (k : Int) + kk = x → RdJ g w1 A (((len : Nat) : Int) + ((k : Nat) : Int)) ((rf : Nat) : Int) rp (apF f len (wbA wt) k) → (∀ k, (k < 8 ∨ 12 < k) → w1 k = w k) → pw_G g p l e { frames := 1, cells := 0, slots := 0, locals := 23 } s m args below meth c 3 (pw_Q g below (fun r w' => (if (0 ≤ x ∧ x ≤ 20 ∧ (len : Int) + x ≤ 3000) then r = some (.int (iZ ((len : Int) + x))) ∧ ∃ wt', (∀ j : Int, 0 ≤ j → j < 5 → wt' j = 0) ∧ LmI g w' A wt' (apF f len (wbA wt) x.toNat) (len + x.toNat) rf rp fu sp wf T L nk cap kp else r = some (.int (iZ (-1))) ∧ LmI g w' A wt f len rf rp fu sp wf T L nk cap kp) ∧ ∀ k, 899 < k → w' k = w k) args s { frames := 1, cells := 0, slots := 0, locals := 23 }) 0 0 29 [(0, .ref (A 0)), (1, .int (iZ x)), (2, .int (iZ ((k : Nat) : Int)))] [] w1 := by
          intro kk
          induction kk with
          | zero =>
            intro w1 k hk hJ1 hf1
            have e0 := (hf1 0 (by omega)).trans c0
            have e1 := (hf1 1 (by omega)).trans c1
            obtain ⟨ic, op, wd, am, sp0, dg, it, fi, aw, k8, k9, k10, k11, k12, ki, kf, ka⟩ := id hJ1
            refine pw_iload_n (i := 2) C dX9_end_29 rfl rfl ?_
            refine pw_iload_n (i := 1) C dX9_end_30 rfl rfl ?_
            refine pw_icmp_ge (tgt := 70) C (by omega) (by omega) dX9_end_31 (by decide) (fun h_11 => ?_) (fun h_11 => ?_)
            · refine pw_aload_n (i := 0) C dX9_end_70 rfl rfl (Or.inr ⟨_, rfl⟩) ?_
              refine pw_get (j := 0) C cl_X9 fl_X9_9 (by decide) rfl e0 rfl dX9_end_71 ?_
              refine pw_iconst C dX9_end_74 ?_
              refine pw_callS (As := [.ref (A 1), .int (iZ 0)]) (st := []) C (m_J7_fill_53178 g l (k := 1) e1 (by decide) (by decide)) my_J7_fill_53178 ml_X9_69 rfl ⟨Nat.le_of_ble_eq_true rfl, Nat.le_of_ble_eq_true rfl⟩ ⟨by (try dsimp only); omega, by (try dsimp only); omega⟩ rfl (Nat.le_of_ble_eq_true rfl) dX9_end_75 ?_
              rintro _ w3 ⟨rfl, wt', f1, f2, f3, f4⟩
              refine pw_stk (st' := []) rfl ?_
              refine pw_aload_n (i := 0) C dX9_end_78 rfl rfl (Or.inr ⟨_, rfl⟩) ?_
              have c_12 := (f4 0 (by omega)).trans e0
              refine pw_get (j := 2) C cl_X9 fl_X9_25 (by decide) rfl c_12 rfl dX9_end_79 ?_
              have c_13 := (f4 8 (by omega)).trans k8
              refine pw_getN (j := 2) C cl_X5 fn_X9_61 (by decide) rfl c_13 rfl dX9_end_82 ?_
              refine pw_iret C hr dX9_end_85 ⟨?_, fun k hk => ((f4 k (by omega))).trans (hf1 k (by omega))⟩
              rw [if_pos (by omega), show ((k : Nat) : Int) = x by omega]
              refine ⟨rfl, wt', f2, hL.rd f1 ?_ (by rw [show ((len + x.toNat : Nat) : Int) = ((len : Nat) : Int) + ((k : Nat) : Int) by omega, show x.toNat = k by omega]; exact hJ1.same (fun k hk => (f4 k (by omega)))) (apF_in c5 (fun j => byB_in _ _) _) (by omega) (fun k hk => ((f4 k (by omega))).trans (hf1 k (by omega)))⟩
              intro j
              by_cases hj : 0 ≤ j ∧ j < 5
              · rw [f2 j hj.1 hj.2]; decide
              · rw [f3 j hj]; exact c2 j
            · exfalso; omega
          | succ kk ih =>
            intro w1 k hk hJ1 hf1
            have e0 := (hf1 0 (by omega)).trans c0
            have e1 := (hf1 1 (by omega)).trans c1
            obtain ⟨ic, op, wd, am, sp0, dg, it, fi, aw, k8, k9, k10, k11, k12, ki, kf, ka⟩ := id hJ1
            refine pw_iload_n (i := 2) C dX9_end_29 rfl rfl ?_
            refine pw_iload_n (i := 1) C dX9_end_30 rfl rfl ?_
            refine pw_icmp_ge (tgt := 70) C (by omega) (by omega) dX9_end_31 (by decide) (fun h_51 => ?_) (fun h_51 => ?_)
            · exfalso; omega
            · refine pw_aload_n (i := 0) C dX9_end_34 rfl rfl (Or.inr ⟨_, rfl⟩) ?_
              refine pw_get (j := 2) C cl_X9 fl_X9_25 (by decide) rfl e0 rfl dX9_end_35 ?_
              refine pw_aload_n (i := 0) C dX9_end_38 rfl rfl (Or.inr ⟨_, rfl⟩) ?_
              refine pw_get (j := 0) C cl_X9 fl_X9_9 (by decide) rfl e0 rfl dX9_end_39 ?_
              refine pw_iload_n (i := 2) C dX9_end_42 rfl rfl ?_
              refine pw_iconst C dX9_end_43 ?_
              refine pw_idiv C ⟨by omega, by omega⟩ ⟨by omega, by omega⟩ dX9_end_44 ?_
              have g_52 := c2 (((k : Nat) : Int) / 4)
              refine pw_iald C e1 ⟨by omega, by omega, by omega⟩ dX9_end_45 ?_
              refine pw_bipush C dX9_end_46 (by decide) ?_
              refine pw_iload_n (i := 2) C dX9_end_48 rfl rfl ?_
              refine pw_iconst C dX9_end_49 ?_
              refine pw_irem C ⟨by omega, by omega⟩ ⟨by omega, by omega⟩ dX9_end_50 ?_
              refine pw_bipush C dX9_end_51 (by decide) ?_
              refine pw_imul C dX9_end_53 ?_
              refine pw_isub C dX9_end_54 ?_
              refine pw_iushr (z := (wt (((k : Nat) : Int) / 4)) % 4294967296 / ((2 ^ ((24 - ((((k : Nat) : Int) % 4) * 8))).toNat : Nat) : Int)) C dX9_end_55 (iz_ushrZ (by omega)) ?_
              refine pw_sipush C dX9_end_56 (by decide) ?_
              refine pw_iand (z := wbA wt ((k : Nat) : Int)) C dX9_end_59 (iz_and255 _) ?_
              refine pw_i2c (z := wbA wt ((k : Nat) : Int)) C dX9_end_60 (iz_char (byB_in _ _)) ?_
              refine pw_callV (As := [.int (iZ (wbA wt ((k : Nat) : Int)))]) (st := []) C (rd_append g l hJ1 (c0 := wbA wt ((k : Nat) : Int)) (byB_in _ _) (by omega)) my_X5_append ml_X9_65 (hJ1.rec C) rfl ⟨Nat.le_of_ble_eq_true rfl, Nat.le_of_ble_eq_true rfl⟩ ⟨by (try dsimp only); omega, by (try dsimp only); omega⟩ rfl (Nat.le_of_ble_eq_true rfl) dX9_end_61 ?_
              rintro _ w2 ⟨rfl, hJ2, ho2⟩
              refine pw_stk (st' := []) rfl ?_
              refine pw_iinc (lv' := [(0, .ref (A 0)), (1, .int (iZ x)), (2, .int (iZ (((k : Nat) : Int) + 1)))]) C dX9_end_64 rfl (by decide) rfl ?_
              refine pw_goto (tgt := 29) C dX9_end_67 (by decide) ?_
              rw [show ((k : Nat) : Int) + 1 = ((k + 1 : Nat) : Int) by omega]
              exact ih w2 (k + 1) (by omega) (by rw [show (((len : Nat) : Int) + ((k + 1 : Nat) : Int)) = ((len : Nat) : Int) + ((k : Nat) : Int) + 1 by omega]; exact hJ2) (fun k hk => (ho2 k (by omega)).trans (hf1 k hk))
        exact loop x.toNat w 0 (by omega) (by rw [show (((len : Nat) : Int) + ((0 : Nat) : Int)) = ((len : Nat) : Int) by omega]; exact c4) (fun _ _ => rfl)
      · refine pw_iconst C dX9_end_25 ?_
        exact pw_iret C hr dX9_end_26 ⟨by rw [if_neg (by omega)]; exact ⟨rfl, hL⟩, fun _ _ => rfl⟩

