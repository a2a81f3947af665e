theorem ixF_ch (x : Int) : ∀ (f : Nat) (k : Int), 0 ≤ k → 0 ≤ ixF 1 x f k → chZ 1 (ixF 1 x f k) = x
  | 0, k, _, h => by simp only [ixF] at h; omega
  | f + 1, k, hk, h => by
    rw [ixF] at h ⊢
    split
    · assumption
    · rename_i q; rw [if_neg q] at h; exact ixF_ch x f (k + 1) (by omega) h
theorem ixZ_inj {c d : Int} (h : ixZ 1 c = ixZ 1 d) (h0 : 0 < ixZ 1 c) : c = d := by
  have a := ixF_ch c 47 0 (by omega) (by have : ixZ 1 c = ixF 1 c 47 0 := rfl; omega)
  have b := ixF_ch d 47 0 (by omega) (by have : ixZ 1 d = ixF 1 d 47 0 := rfl; omega)
  have e : ixF 1 c 47 0 = ixF 1 d 47 0 := h
  rw [← a, ← b, e]
theorem spW_inj {f f' : Int → Int} {b b' : Int} : ∀ (m m' : Nat), (∀ k : Int, 0 ≤ k → k < m → atL (f (b + k)) = true) → (∀ k : Int, 0 ≤ k → k < m' → atL (f' (b' + k)) = true) → spW f b m = spW f' b' m' → m = m' ∧ ∀ k : Int, 0 ≤ k → k < m → f (b + k) = f' (b' + k)
  | 0, 0, _, _, _ => ⟨rfl, fun k h0 h1 => absurd h1 (by omega)⟩
  | 0, m' + 1, _, h2, e => by
    have d' : 0 < ixZ 1 (f' (b' + (m' : Int))) := of_decide_eq_true (h2 m' (by omega) (by omega))
    simp only [spW] at e; omega
  | m + 1, 0, h1, _, e => by
    have d : 0 < ixZ 1 (f (b + (m : Int))) := of_decide_eq_true (h1 m (by omega) (by omega))
    simp only [spW] at e; omega
  | m + 1, m' + 1, h1, h2, e => by
    have d : 0 < ixZ 1 (f (b + (m : Int))) := of_decide_eq_true (h1 m (by omega) (by omega))
    have d' : 0 < ixZ 1 (f' (b' + (m' : Int))) := of_decide_eq_true (h2 m' (by omega) (by omega))
    have r := ixZ_rng (f (b + (m : Int)))
    have r' := ixZ_rng (f' (b' + (m' : Int)))
    simp only [spW] at e
    have e1 : spW f b m = spW f' b' m' := by omega
    have e2 : ixZ 1 (f (b + (m : Int))) = ixZ 1 (f' (b' + (m' : Int))) := by omega
    obtain ⟨q1, q2⟩ := spW_inj m m' (fun k h0 hk => h1 k h0 (by omega)) (fun k h0 hk => h2 k h0 (by omega)) e1
    refine ⟨by omega, fun k h0 hk => ?_⟩
    by_cases hm : k = m
    · rw [hm]; have := ixZ_inj e2 d; rw [q1]; rw [q1] at this; exact this
    · exact q2 k h0 (by omega)
/-- an object of the reference's store, perhaps new -/
def rNew (g : pw_P) (w w' : pw_W) (b : Nat) (B : Nat → Nat) (x : Nat → Int) (t : Int → Ob) (n : Int) (sN ds : Nat) (fZ : Int → Int) (X : Ob) (r : Option Value) : Prop :=
  ∃ (z : Int) (t' : Int → Ob) (n' : Int) (s' : Nat) (fZ' : Int → Int), r = some (.int (iZ z)) ∧ w' 1000 = (b, some (mdE B (va_up (va_up x 7 n') 10 ((s' : Nat) : Int)))) ∧ RS g w' B t' n' s' fZ' ∧ Ext t n t' n' ∧ n' ≤ n + 1 ∧ s' ≤ sN + ds ∧ (∀ j : Int, 0 ≤ j → j < n → fZ' j = fZ j) ∧ Vl t' n' z X ∧ ∀ k, (k < 1000 ∨ 1010 < k ∨ k = 1008) → w' k = w k
theorem rNew.old {g : pw_P} {w : pw_W} {b : Nat} {B : Nat → Nat} {x : Nat → Int} {t : Int → Ob} {n z : Int} {sN ds : Nat} {fZ : Int → Int} {X : Ob} (h0 : w 1000 = (b, some (mdE B x))) (hR : RS g w B t n sN fZ) (h7 : x 7 = n) (h10 : x 10 = ((sN : Nat) : Int)) (hz : Vl t n z X) : rNew g w w b B x t n sN ds fZ X (some (.int (iZ z))) :=
  ⟨z, t, n, sN, fZ, rfl, by rw [← h7, ← h10]; exact h0, hR, Ext.rf, by omega, by omega, fun _ _ _ => rfl, hz, fun _ _ => rfl⟩
theorem tUp_ext {t : Int → Ob} {n : Int} {X : Ob} : Ext t n (tUp t n X) (n + 1) := ⟨by omega, fun i h0 h1 => tUp_ne _ _ (by omega)⟩
theorem obHt_add {a b : Ob} {x y : Int} (hx : x = obHt a) (hy : y = obHt b) : 1 + (if y < x then x else y) = obHt (.add a b) := by
  rw [hx, hy]; simp only [obHt, sMx]; split <;> split <;> omega
theorem lsH_skip {hs : Int → Int} {c n : Int} {m : Nat} {Q : Int → Prop} (hk : 0 ≤ lsH hs c m) (hno : ∀ j : Int, (m : Int) ≤ j → j < n → hs j = c → ¬ Q j) (hq : ¬ Q (lsH hs c m)) : ∀ j : Int, (((lsH hs c m).toNat : Nat) : Int) ≤ j → j < n → hs j = c → ¬ Q j := by
  intro j j0 j1 hj
  by_cases q : j = lsH hs c m
  · rw [q]; exact hq
  · by_cases q2 : (m : Int) ≤ j
    · exact hno j q2 j1 hj
    · exact absurd hj (lsH_no hs c m j (by omega) (by omega) (by omega))
theorem lsH_end {hs : Int → Int} {c n : Int} {m : Nat} {Q : Int → Prop} (hk : lsH hs c m = -1) (hno : ∀ j : Int, (m : Int) ≤ j → j < n → hs j = c → ¬ Q j) : ∀ j : Int, 0 ≤ j → j < n → hs j = c → ¬ Q j := by
  intro j j0 j1 hj
  by_cases q2 : (m : Int) ≤ j
  · exact hno j q2 j1 hj
  · exact absurd hj (lsH_no hs c m j (by omega) (by omega) (by omega))
set_option maxRecDepth 100000 in
set_option maxHeartbeats 4000000 in
/-- pair -/
theorem m_X10_pair (g : pw_P) (l : Launch) {w : pw_W} {b : Nat} {B : Nat → Nat} {x : Nat → Int} (h0 : w 1000 = (b, some (mdE B x))) {t : Int → Ob} {n : Int} {sN : Nat} {fZ : Int → Int} (hR : RS g w B t n sN fZ) (h7 : x 7 = n) (h10 : x 10 = ((sN : Nat) : Int)) {l1 r1 : Int} (hl : Vl t n l1 (t l1)) (hr0 : Vl t n r1 (t r1)) (hcap : n < 40000) : pw_M g l yX10_pair cX10_pair 5 (some .int) { frames := 1, cells := 0, slots := 0, locals := 23 } [.ref b, .int (iZ l1), .int (iZ r1)] w (fun r w' => rNew g w w' b B x t n sN 0 fZ (.add (t l1) (t r1)) r) := by
  refine pw_M.of (by decide) (Nat.le_of_ble_eq_true rfl) rfl ?_
  intro p e s m args below meth c C hr hn
  obtain ⟨fL, fR, fN, fH, fV, fD, fM, fE, a0, a1, a2, a3, a4, a5, a6, a8, a9, ⟨u0, u1, u2, u3, u4, u5, u6, u8, u9⟩, hn, hs, hs4, hC⟩ := id hR
  have hsl := slM_in l1 r1
  have hhl := hC.ht _ l1 rfl hl.1 hl.2.1
  have hhr := hC.ht _ r1 rfl hr0.1 hr0.2.1
  have hgl := obHt_ge (t l1)
  have hgr := obHt_ge (t r1)
  have hl1 := hl.1
  have hl2 := hl.2.1
  have hr1' := hr0.1
  have hr2' := hr0.2.1
  have loop : ∀ (mm m1 : Nat), m1 ≤ mm → (m1 : Int) ≤ n → (∀ j : Int, (m1 : Int) ≤ j → j < n → (hsM fL fR fV fM fE) j = slM l1 r1 → ¬ (fun j => fL j = l1 ∧ fR j = r1) j) → pw_G g p l e { frames := 1, cells := 0, slots := 0, locals := 23 } s m args below meth c 5 (pw_Q g below (fun r w' => rNew g w w' b B x t n sN 0 fZ (.add (t l1) (t r1)) r) args s { frames := 1, cells := 0, slots := 0, locals := 23 }) 0 0 14 [(0, .ref b), (1, .int (iZ l1)), (2, .int (iZ r1)), (3, .int (iZ (slM l1 r1))), (4, .int (iZ (lsH (hsM fL fR fV fM fE) (slM l1 r1) m1)))] [] w := by
    intro mm
    induction mm with
    | zero =>
      intro m1 hm hmn hno
      obtain rfl : m1 = 0 := by omega
      have hin := lsH_in (hsM fL fR fV fM fE) (slM l1 r1) 0
      refine pw_iload C dX10_pair_14 rfl ?_
      refine pw_iconst C dX10_pair_16 ?_
      refine pw_icmp_eq (tgt := 57) C (by omega) (by omega) dX10_pair_17 (by decide) (fun h_401 => ?_) (fun h_401 => ?_)
      · have hend := lsH_end (Q := (fun j => fL j = l1 ∧ fR j = r1)) (by omega) hno
        have hX : ∀ k : Int, 0 ≤ k → k < n → t k ≠ (.add (t l1) (t r1)) := by
          intro k k0 k1 e
          rcases hC.1 k k0 k1 with d | d | d
          · rw [d.2.2.2.1] at e; cases e
          · rw [d.2.2.2.2.1] at e; cases e
          · rw [d.2.2.2.2.1] at e
            have e1 := hC.2.1 _ _ d.1 (by omega) hl.1 hl.2.1 (Term.add.inj e).1
            have e2 := hC.2.1 _ _ d.2.2.1 (by omega) hr0.1 hr0.2.1 (Term.add.inj e).2
            exact hend k k0 k1 (by unfold hsM; rw [e1, e2, if_neg (by omega), if_neg (by omega)]) ⟨e1, e2⟩
        refine pw_aload_n (i := 0) C dX10_pair_57 rfl rfl (Or.inr ⟨_, rfl⟩) ?_
        refine pw_iload_n (i := 1) C dX10_pair_58 rfl rfl ?_
        refine pw_iload_n (i := 2) C dX10_pair_59 rfl rfl ?_
        refine pw_iload_n (i := 3) C dX10_pair_60 rfl rfl ?_
        refine pw_callV (As := [.int (iZ l1), .int (iZ r1), .int (iZ (slM l1 r1))]) (st := []) C (m_X10_added g l h0 (n := n) (by exact h7) a0 a1 a2 a3 a4 a6 u0 u1 u2 u3 u4 u6 (l1 := l1) (r1 := r1) (h1 := (slM l1 r1)) (by omega) (by omega) (by omega) (by omega) (by omega)) my_X10_added ml_X10_168 (pw_rec.of C h0 cl_X10.1) rfl ⟨Nat.le_of_ble_eq_true rfl, Nat.le_of_ble_eq_true rfl⟩ ⟨by (try dsimp only); omega, by (try dsimp only); omega⟩ rfl (Nat.le_of_ble_eq_true rfl) dX10_pair_61 ?_
        rintro _ w_402 ⟨rfl, e0, e1, e2, e3, e4, e5, e7, eo⟩
        refine pw_stk (st' := [.int (iZ n)]) rfl ?_
        have c_403 := (eo 1006 (by omega)).trans a5
        have c_404 := (eo 1009 (by omega)).trans a8
        have c_405 := (eo 1010 (by omega)).trans a9
        refine pw_iret C hr dX10_pair_64 ⟨n, tUp t n (.add (t l1) (t r1)), n + 1, sN, upz fZ n 0, rfl, ?_, ⟨upz fL n l1, upz fR n r1, upz fN n (fD (slM l1 r1)), upz fH n _, fV, upz fD (slM l1 r1) n, fM, fE, e1, e2, e3, e4, e5, c_403, e7, c_404, c_405, ⟨upz_inI u0 (by omega), upz_inI u1 (by omega), upz_inI u2 (u6 _), upz_inI u3 (by decide), upz_inI u4 ?_, u5, upz_inI u6 (by omega), u8, u9⟩, by omega, ?_, hs4, hC.push hn.1 (fun _ _ _ => rfl) (fun _ _ _ => ⟨rfl, fun _ _ _ => rfl⟩) hX ?_ ?_⟩, tUp_ext, by omega, by omega, fun j j0 j1 => upz_ne _ _ (by omega), ⟨hn.1, by omega, tUp_self _ _ _⟩, fun k hk => (eo k (by omega))⟩
        · rw [e0, ← h10]; rfl
        · rw [if_neg (by omega)]; split <;> omega
        · rw [hs, show (n + 1).toNat = n.toNat + 1 by omega, symC, show ((n.toNat : Nat) : Int) = n by omega, upz_self, if_neg (by omega), Nat.add_zero, symC_eq (f := fL) _ (fun m m0 m1 => upz_ne _ _ (by omega))]
        · unfold ndM; rw [upz_self, upz_self, upz_self, tUp_self, if_neg (by omega)]
          exact Or.inr (Or.inr ⟨hl.1, hl.2.1, hr0.1, hr0.2.1, by rw [tUp_ne _ _ (by omega), tUp_ne _ _ (by omega)], obHt_add hhl.2 hhr.2⟩)
        · unfold hsM; rw [upz_self, upz_self, if_neg (by omega), if_neg (by omega)]
      · exfalso; omega
    | succ mm ih =>
      intro m1 hm hmn hno
      have hin := lsH_in (hsM fL fR fV fM fE) (slM l1 r1) m1
      refine pw_iload C dX10_pair_14 rfl ?_
      refine pw_iconst C dX10_pair_16 ?_
      refine pw_icmp_eq (tgt := 57) C (by omega) (by omega) dX10_pair_17 (by decide) (fun h_31 => ?_) (fun h_31 => ?_)
      · have hend := lsH_end (Q := (fun j => fL j = l1 ∧ fR j = r1)) (by omega) hno
        have hX : ∀ k : Int, 0 ≤ k → k < n → t k ≠ (.add (t l1) (t r1)) := by
          intro k k0 k1 e
          rcases hC.1 k k0 k1 with d | d | d
          · rw [d.2.2.2.1] at e; cases e
          · rw [d.2.2.2.2.1] at e; cases e
          · rw [d.2.2.2.2.1] at e
            have e1 := hC.2.1 _ _ d.1 (by omega) hl.1 hl.2.1 (Term.add.inj e).1
            have e2 := hC.2.1 _ _ d.2.2.1 (by omega) hr0.1 hr0.2.1 (Term.add.inj e).2
            exact hend k k0 k1 (by unfold hsM; rw [e1, e2, if_neg (by omega), if_neg (by omega)]) ⟨e1, e2⟩
        refine pw_aload_n (i := 0) C dX10_pair_57 rfl rfl (Or.inr ⟨_, rfl⟩) ?_
        refine pw_iload_n (i := 1) C dX10_pair_58 rfl rfl ?_
        refine pw_iload_n (i := 2) C dX10_pair_59 rfl rfl ?_
        refine pw_iload_n (i := 3) C dX10_pair_60 rfl rfl ?_
        refine pw_callV (As := [.int (iZ l1), .int (iZ r1), .int (iZ (slM l1 r1))]) (st := []) C (m_X10_added g l h0 (n := n) (by exact h7) a0 a1 a2 a3 a4 a6 u0 u1 u2 u3 u4 u6 (l1 := l1) (r1 := r1) (h1 := (slM l1 r1)) (by omega) (by omega) (by omega) (by omega) (by omega)) my_X10_added ml_X10_168 (pw_rec.of C h0 cl_X10.1) rfl ⟨Nat.le_of_ble_eq_true rfl, Nat.le_of_ble_eq_true rfl⟩ ⟨by (try dsimp only); omega, by (try dsimp only); omega⟩ rfl (Nat.le_of_ble_eq_true rfl) dX10_pair_61 ?_
        rintro _ w_32 ⟨rfl, e0, e1, e2, e3, e4, e5, e7, eo⟩
        refine pw_stk (st' := [.int (iZ n)]) rfl ?_
        have c_33 := (eo 1006 (by omega)).trans a5
        have c_34 := (eo 1009 (by omega)).trans a8
        have c_35 := (eo 1010 (by omega)).trans a9
        refine pw_iret C hr dX10_pair_64 ⟨n, tUp t n (.add (t l1) (t r1)), n + 1, sN, upz fZ n 0, rfl, ?_, ⟨upz fL n l1, upz fR n r1, upz fN n (fD (slM l1 r1)), upz fH n _, fV, upz fD (slM l1 r1) n, fM, fE, e1, e2, e3, e4, e5, c_33, e7, c_34, c_35, ⟨upz_inI u0 (by omega), upz_inI u1 (by omega), upz_inI u2 (u6 _), upz_inI u3 (by decide), upz_inI u4 ?_, u5, upz_inI u6 (by omega), u8, u9⟩, by omega, ?_, hs4, hC.push hn.1 (fun _ _ _ => rfl) (fun _ _ _ => ⟨rfl, fun _ _ _ => rfl⟩) hX ?_ ?_⟩, tUp_ext, by omega, by omega, fun j j0 j1 => upz_ne _ _ (by omega), ⟨hn.1, by omega, tUp_self _ _ _⟩, fun k hk => (eo k (by omega))⟩
        · rw [e0, ← h10]; rfl
        · rw [if_neg (by omega)]; split <;> omega
        · rw [hs, show (n + 1).toNat = n.toNat + 1 by omega, symC, show ((n.toNat : Nat) : Int) = n by omega, upz_self, if_neg (by omega), Nat.add_zero, symC_eq (f := fL) _ (fun m m0 m1 => upz_ne _ _ (by omega))]
        · unfold ndM; rw [upz_self, upz_self, upz_self, tUp_self, if_neg (by omega)]
          exact Or.inr (Or.inr ⟨hl.1, hl.2.1, hr0.1, hr0.2.1, by rw [tUp_ne _ _ (by omega), tUp_ne _ _ (by omega)], obHt_add hhl.2 hhr.2⟩)
        · unfold hsM; rw [upz_self, upz_self, if_neg (by omega), if_neg (by omega)]
      · have hk0 : 0 ≤ lsH (hsM fL fR fV fM fE) (slM l1 r1) m1 := by omega
        refine pw_aload_n (i := 0) C dX10_pair_20 rfl rfl (Or.inr ⟨_, rfl⟩) ?_
        refine pw_get (j := 0) C cl_X10 fl_X10_8 (by decide) rfl h0 rfl dX10_pair_21 ?_
        refine pw_stk (st' := [.ref (B 0)]) rfl ?_
        refine pw_iload C dX10_pair_24 rfl ?_
        have g_36 := u0 (lsH (hsM fL fR fV fM fE) (slM l1 r1) m1)
        refine pw_iald C a0 ⟨by omega, by omega, by omega⟩ dX10_pair_26 ?_
        refine pw_iload_n (i := 1) C dX10_pair_27 rfl rfl ?_
        refine pw_icmp_ne (tgt := 45) C (by omega) (by omega) dX10_pair_28 (by decide) (fun h_37 => ?_) (fun h_37 => ?_)
        · refine pw_aload_n (i := 0) C dX10_pair_45 rfl rfl (Or.inr ⟨_, rfl⟩) ?_
          refine pw_get (j := 2) C cl_X10 fl_X10_17 (by decide) rfl h0 rfl dX10_pair_46 ?_
          refine pw_stk (st' := [.ref (B 2)]) rfl ?_
          refine pw_iload C dX10_pair_49 rfl ?_
          have g_38 := u2 (lsH (hsM fL fR fV fM fE) (slM l1 r1) m1)
          refine pw_iald C a2 ⟨by omega, by omega, by omega⟩ dX10_pair_51 ?_
          refine pw_istore (lv' := [(0, .ref b), (1, .int (iZ l1)), (2, .int (iZ r1)), (3, .int (iZ (slM l1 r1))), (4, .int (iZ (fN (lsH (hsM fL fR fV fM fE) (slM l1 r1) m1))))]) C dX10_pair_52 (by decide) rfl ?_
          refine pw_goto (tgt := 14) C dX10_pair_54 (by decide) ?_
          have hnx := hC.2.2.2 _ hk0 (by omega)
          rw [lsH_is (hsM fL fR fV fM fE) (slM l1 r1) m1 hk0] at hnx
          rw [hnx]
          exact ih _ (by omega) (by omega) (lsH_skip (Q := (fun j => fL j = l1 ∧ fR j = r1)) hk0 hno (fun q => by omega))
        · refine pw_aload_n (i := 0) C dX10_pair_31 rfl rfl (Or.inr ⟨_, rfl⟩) ?_
          refine pw_get (j := 1) C cl_X10 fl_X10_14 (by decide) rfl h0 rfl dX10_pair_32 ?_
          refine pw_stk (st' := [.ref (B 1)]) rfl ?_
          refine pw_iload C dX10_pair_35 rfl ?_
          have g_39 := u1 (lsH (hsM fL fR fV fM fE) (slM l1 r1) m1)
          refine pw_iald C a1 ⟨by omega, by omega, by omega⟩ dX10_pair_37 ?_
          refine pw_iload_n (i := 2) C dX10_pair_38 rfl rfl ?_
          refine pw_icmp_ne (tgt := 45) C (by omega) (by omega) dX10_pair_39 (by decide) (fun h_40 => ?_) (fun h_40 => ?_)
          · refine pw_aload_n (i := 0) C dX10_pair_45 rfl rfl (Or.inr ⟨_, rfl⟩) ?_
            refine pw_get (j := 2) C cl_X10 fl_X10_17 (by decide) rfl h0 rfl dX10_pair_46 ?_
            refine pw_stk (st' := [.ref (B 2)]) rfl ?_
            refine pw_iload C dX10_pair_49 rfl ?_
            have g_41 := u2 (lsH (hsM fL fR fV fM fE) (slM l1 r1) m1)
            refine pw_iald C a2 ⟨by omega, by omega, by omega⟩ dX10_pair_51 ?_
            refine pw_istore (lv' := [(0, .ref b), (1, .int (iZ l1)), (2, .int (iZ r1)), (3, .int (iZ (slM l1 r1))), (4, .int (iZ (fN (lsH (hsM fL fR fV fM fE) (slM l1 r1) m1))))]) C dX10_pair_52 (by decide) rfl ?_
            refine pw_goto (tgt := 14) C dX10_pair_54 (by decide) ?_
            have hnx := hC.2.2.2 _ hk0 (by omega)
            rw [lsH_is (hsM fL fR fV fM fE) (slM l1 r1) m1 hk0] at hnx
            rw [hnx]
            exact ih _ (by omega) (by omega) (lsH_skip (Q := (fun j => fL j = l1 ∧ fR j = r1)) hk0 hno (fun q => by omega))
          · refine pw_iload C dX10_pair_42 rfl ?_
            have hpr := (hC.1 _ hk0 (by omega)).pair (by omega)
            refine pw_iret C hr dX10_pair_44 (rNew.old h0 hR h7 h10 ⟨hk0, by omega, ?_⟩)
            rw [hpr.2.2.2]
            rw [show fL (lsH (hsM fL fR fV fM fE) (slM l1 r1) m1) = l1 by omega, show fR (lsH (hsM fL fR fV fM fE) (slM l1 r1) m1) = r1 by omega]
  refine pw_iload_n (i := 1) C dX10_pair_0 rfl rfl ?_
  refine pw_iload_n (i := 2) C dX10_pair_1 rfl rfl ?_
  refine pw_callS (As := [.int (iZ l1), .int (iZ r1)]) (st := []) C (m_X10_slot g l (l1 := l1) (r1 := r1)) my_X10_slot ml_X10_157 rfl ⟨Nat.le_of_ble_eq_true rfl, Nat.le_of_ble_eq_true rfl⟩ ⟨by (try dsimp only); omega, by (try dsimp only); omega⟩ rfl (Nat.le_of_ble_eq_true rfl) dX10_pair_2 ?_
  rintro _ _ ⟨rfl, rfl⟩
  have g_201 := slM_in l1 r1
  refine pw_stk (st' := [.int (iZ (slM l1 r1))]) rfl ?_
  refine pw_istore_n (i := 3) (lv' := [(0, .ref b), (1, .int (iZ l1)), (2, .int (iZ r1)), (3, .int (iZ (slM l1 r1)))]) C dX10_pair_5 rfl (by decide) rfl ?_
  refine pw_aload_n (i := 0) C dX10_pair_6 rfl rfl (Or.inr ⟨_, rfl⟩) ?_
  refine pw_get (j := 6) C cl_X10 fl_X10_30 (by decide) rfl h0 rfl dX10_pair_7 ?_
  refine pw_stk (st' := [.ref (B 6)]) rfl ?_
  refine pw_iload_n (i := 3) C dX10_pair_10 rfl rfl ?_
  have g_202 := u6 (slM l1 r1)
  refine pw_iald C a6 ⟨by omega, by omega, by omega⟩ dX10_pair_11 ?_
  refine pw_istore (lv' := [(0, .ref b), (1, .int (iZ l1)), (2, .int (iZ r1)), (3, .int (iZ (slM l1 r1))), (4, .int (iZ (fD (slM l1 r1))))]) C dX10_pair_12 (by decide) rfl ?_
  rw [hC.2.2.1 _ hsl.1 hsl.2]
  exact loop n.toNat n.toNat (Nat.le_refl _) (by omega) (fun j j0 j1 => absurd j1 (by omega))

theorem rd_pair (g : pw_P) (l : Launch) {w : pw_W} {b : Nat} {B : Nat → Nat} {x : Nat → Int} (h0 : w 1000 = (b, some (mdE B x))) {t : Int → Ob} {n : Int} {sN : Nat} {fZ : Int → Int} (hR : RS g w B t n sN fZ) (h7 : x 7 = n) (h10 : x 10 = ((sN : Nat) : Int)) {l1 r1 : Int} {Y Z : Ob} (hl : Vl t n l1 Y) (hr0 : Vl t n r1 Z) (hcap : n < 40000) : pw_M g l yX10_pair cX10_pair 5 (some .int) { frames := 1, cells := 0, slots := 0, locals := 23 } [.ref b, .int (iZ l1), .int (iZ r1)] w (fun r w' => rNew g w w' b B x t n sN 0 fZ (.add Y Z) r) := by
  have e1 := hl.2.2
  have e2 := hr0.2.2
  subst e1
  subst e2
  exact m_X10_pair g l h0 hR h7 h10 hl hr0 hcap
