/-- the reference has read its text -/
def rRP (g : pw_P) (w w' : pw_W) (b : Nat) (B : Nat → Nat) (x : Nat → Int) (t : Int → Ob) (n : Int) (sN : Nat) (fZ f : Int → Int) (len : Nat) (r : Option Value) : Prop :=
  ∃ (t' : Int → Ob) (n' : Int) (s' : Nat) (fZ' : Int → Int) (q' a' o' i' h' d' : Int) (fW' : Int → Int), r = some (.int (iZ (b2i (decide ((rTx f len).1 = 0))))) ∧ w' 1000 = (b, some (mdE B (va_up (wdX x n' ((s' : Nat) : Int) q' a' (((rTx f len).1 : Nat) : Int) (rTx f len).2.1 o' i' h' d') 13 0))) ∧ RS g w' B t' n' s' fZ' ∧ Ext t n t' n' ∧ n' ≤ n + 2 * ((nzC f len : Nat) : Int) + 2 ∧ 2 * s' ≤ 2 * sN + nzC f len + 1 ∧ (∀ j : Int, 0 ≤ j → j < n → fZ' j = fZ j) ∧ w' 1017 = (B 16, some (AI g 12 fW')) ∧ (∀ j, inI (fW' j)) ∧ wFr w w' ∧ MdA g w' B t' n' [] ∧ ((rTx f len).1 = 0 → Vl t' n' h' (rTx f len).2.2 ∧ n' ≤ n + 2 * ((min (nzC f len) 1000 : Nat) : Int) ∧ mxL (rTx f len).2.2 ≤ min (nzC f len) 1000)
theorem rRun_e {f : Int → Int} {len i : Int} {m wd : Nat} {dn : Option Ob} {F : List Rf} (h : len ≤ i) : rRun f len (m + 1) i wd dn F = (match dn with | some v => (0, -1, v) | none => (3, len, oNil)) := by
  rw [rRun.eq_def]; simp only; rw [if_pos h]; cases dn <;> rfl
theorem rBl_f {f : Int → Int} {m : Nat} {i : Int} (h : i < rBl f m false i) : f i ≠ 0 := by
  cases m with
  | zero => simp only [rBl] at h; omega
  | succ m =>
    intro e
    rw [rBl, if_neg (by omega), if_neg (by omega), if_pos ⟨by omega, rfl⟩] at h
    omega
theorem rEnd_at {f : Int → Int} {len i : Int} (hi : 0 ≤ i ∧ i < len) (ha : atL (f i) = true) : rEnd f len i < len → atL (f (rEnd f len i)) = false := by
  unfold rEnd
  rw [if_pos ha]
  have key : ∀ (m : Nat) (k : Int), k + m = len → rWe f m k < len → atL (f (rWe f m k)) = false := by
    intro m
    induction m with
    | zero => intro k hk h; simp only [rWe] at h; omega
    | succ m ih =>
      intro k hk h
      rw [rWe] at h ⊢
      split
      · rename_i q; rw [if_pos q] at h; exact ih (k + 1) (by omega) h
      · rename_i q; simpa using q
  exact key _ i (by omega)
set_option maxRecDepth 100000 in
set_option maxHeartbeats 4000000 in
/-- reads -/
theorem m_X10_reads (g : pw_P) (l : Launch) {w : pw_W} {b : Nat} {B : Nat → Nat} {x : Nat → Int} (h0 : w 1000 = (b, some (mdE B x))) {t : Int → Ob} {n : Int} {sN : Nat} {fZ : Int → Int} (hR : RS g w B t n sN fZ) (h7 : x 7 = n) (h10 : x 10 = ((sN : Nat) : Int)) (hK : RK t n) {f fW : Int → Int} {len : Nat} (a12 : w 1013 = (B 12, some (AI g 3000 f))) (hfc : ∀ j, 0 ≤ f j ∧ f j < 256) (hlen : len ≤ 3000) (h13 : x 13 = ((len : Nat) : Int)) (a16 : w 1017 = (B 16, some (AI g 12 fW))) (u16 : ∀ j, inI (fW j)) (hA : MdA g w B t n []) (hcap : n + 2004 ≤ 40000) (hsc : 2 * sN + nzC f len + 1 < 8000) : pw_M g l yX10_reads cX10_reads 2 (some .boolean) { frames := 7, cells := 0, slots := 0, locals := 159 } [.ref b] w (fun r w' => rRP g w w' b B x t n sN fZ f len r) := by
  refine pw_M.of (by decide) (Nat.le_of_ble_eq_true rfl) rfl ?_
  intro p e s m args below meth c C hr hn
  have hRn := hR.n
  have loop : ∀ (m0 : Nat) (w1 : pw_W) (t1 : Int → Ob) (n1 : Int) (s1 : Nat) (Z1 : Int → Int) (q1 i o1 i1 h1 d1 : Int) (W1 : Int → Int) (wd : Nat) (dn : Option Ob) (F : List Rf) (at1 : Nat), RS g w1 B t1 n1 s1 Z1 → RK t1 n1 → Ext t n t1 n1 → MdA g w1 B t1 n1 F → w1 1000 = (b, some (mdE B (wdX x n1 ((s1 : Nat) : Int) q1 i 0 (-1) o1 i1 h1 d1))) → MdX (wdX x n1 ((s1 : Nat) : Int) q1 i 0 (-1) o1 i1 h1 d1) t1 n1 dn F → RdP wd dn F → F.length ≤ 40 → n1 + ((icn F : Nat) : Int) + 2 * ((qcn F : Nat) : Int) ≤ n + 2 * wd → (0 ≤ i ∧ i ≤ ((len : Nat) : Int) ∧ wd ≤ nzC f i.toNat) → wd ≤ 1000 → s1 ≤ sN + at1 → (2 * at1 ≤ nzC f i.toNat ∨ (2 * at1 ≤ nzC f i.toNat + 1 ∧ (i < ((len : Nat) : Int) → atL (f i) = false))) → m0 + wd = 1002 → rRun f ((len : Nat) : Int) m0 i wd dn F = (rTx f len) → (∀ j : Int, 0 ≤ j → j < n → Z1 j = fZ j) → w1 1017 = (B 16, some (AI g 12 W1)) → (∀ j, inI (W1 j)) → (∀ k, (k < 1000 ∨ k = 1008 ∨ (1010 < k ∧ k < 1017) ∨ (1017 < k ∧ k < 1024) ∨ k = 1028 ∨ 1029 < k) → w1 k = w k) → pw_G g p l e { frames := 7, cells := 0, slots := 0, locals := 159 } s m args below meth c 2 (pw_Q g below (fun r w' => rRP g w w' b B x t n sN fZ f len r) args s { frames := 7, cells := 0, slots := 0, locals := 159 }) 0 0 36 [(0, .ref b), (1, .int (iZ ((wd : Nat) : Int)))] [] w1 := by
    intro m0
    induction m0 with
    | zero =>
      intro w1 t1 n1 s1 Z1 q1 i o1 i1 h1 d1 W1 wd dn F at1 hR1 hK1 hext hA1 y0 hX1 hP hl40 hnn hi hwd hs1 hat hmw hq hZZ y17 u17 hf1
      exfalso
      omega
    | succ m0 ih =>
      intro w1 t1 n1 s1 Z1 q1 i o1 i1 h1 d1 W1 wd dn F at1 hR1 hK1 hext hA1 y0 hX1 hP hl40 hnn hi hwd hs1 hat hmw hq hZZ y17 u17 hf1
      have hn1 := hR1.n
      have hext1 := hext.1
      have y12 := (hf1 1013 (by omega)).trans a12
      have y31 : d1 = b2i dn.isSome := hX1.2.2.1
      have hz2 := nzC_mono (f := f) (i := i.toNat) (j := len) (by omega)
      refine pw_aload_n (i := 0) C dX10_reads_36 rfl rfl (Or.inr ⟨_, rfl⟩) ?_
      refine pw_get (j := 21) C cl_X10 fl_X10_207 (by decide) rfl y0 rfl dX10_reads_37 ?_
      refine pw_stk (st' := [.int (iZ 0)]) rfl ?_
      refine pw_if_ne (tgt := 69) C (by omega) dX10_reads_40 (by decide) (fun h_31 => ?_) (fun h_31 => ?_)
      · exfalso; omega
      · refine pw_aload_n (i := 0) C dX10_reads_43 rfl rfl (Or.inr ⟨_, rfl⟩) ?_
        refine pw_get (j := 20) C cl_X10 fl_X10_201 (by decide) rfl y0 rfl dX10_reads_44 ?_
        refine pw_stk (st' := [.int (iZ i)]) rfl ?_
        refine pw_aload_n (i := 0) C dX10_reads_47 rfl rfl (Or.inr ⟨_, rfl⟩) ?_
        refine pw_get (j := 13) C cl_X10 fl_X10_204 (by decide) rfl y0 rfl dX10_reads_48 ?_
        refine pw_stk (st' := [.int (iZ (x 13)), .int (iZ i)]) rfl ?_
        refine pw_stk (st' := [.int (iZ ((len : Nat) : Int)), .int (iZ i)]) (by rw [h13]) ?_
        refine pw_icmp_ge (tgt := 69) C (by omega) (by omega) dX10_reads_51 (by decide) (fun h_32 => ?_) (fun h_32 => ?_)
        · refine pw_aload_n (i := 0) C dX10_reads_69 rfl rfl (Or.inr ⟨_, rfl⟩) ?_
          refine pw_get (j := 21) C cl_X10 fl_X10_207 (by decide) rfl y0 rfl dX10_reads_70 ?_
          refine pw_stk (st' := [.int (iZ 0)]) rfl ?_
          refine pw_if_ne (tgt := 92) C (by omega) dX10_reads_73 (by decide) (fun h_33 => ?_) (fun h_33 => ?_)
          · exfalso; omega
          · refine pw_aload_n (i := 0) C dX10_reads_76 rfl rfl (Or.inr ⟨_, rfl⟩) ?_
            refine pw_get (j := 31) C cl_X10 fl_X10_213 (by decide) rfl y0 rfl dX10_reads_77 ?_
            refine pw_stk (st' := [.int (iZ d1)]) rfl ?_
            refine pw_stk (st' := [.int (iZ (b2i dn.isSome))]) (by rw [y31]) ?_
            refine pw_if_neB (tgt := 92) C dX10_reads_80 (by decide) (fun h_34 => ?_) (fun h_34 => ?_)
            · refine pw_aload_n (i := 0) C dX10_reads_92 rfl rfl (Or.inr ⟨_, rfl⟩) ?_
              refine pw_iconst C dX10_reads_93 ?_
              refine pw_put (j := 13) C cl_X10 fl_X10_204 (by decide) rfl rfl rfl rfl rfl y0 (Nat.le_of_ble_eq_true rfl) dX10_reads_94 (fun w_37 k_35 o_36 => ?_)
              have k_38 : w_37 1000 = (b, some (mdE B (va_up (wdX x n1 ((s1 : Nat) : Int) q1 i 0 (-1) o1 i1 h1 d1) 13 0))) := k_35
              refine pw_aload_n (i := 0) C dX10_reads_97 rfl rfl (Or.inr ⟨_, rfl⟩) ?_
              refine pw_get (j := 21) C cl_X10 fl_X10_207 (by decide) rfl k_38 rfl dX10_reads_98 ?_
              refine pw_stk (st' := [.int (iZ 0)]) rfl ?_
              refine pw_if_ne (tgt := 108) C (by omega) dX10_reads_101 (by decide) (fun h_39 => ?_) (fun h_39 => ?_)
              · exfalso; omega
              · refine pw_iconst C dX10_reads_104 ?_
                refine pw_goto (tgt := 109) C dX10_reads_105 (by decide) ?_
                obtain ⟨v, hdn⟩ : ∃ v, dn = some v := by
                  cases hd : dn with
                  | none => rw [hd] at h_34; cases h_34
                  | some v => exact ⟨v, rfl⟩
                subst hdn
                have hres : (rTx f len) = (0, -1, v) := by rw [← hq]; exact rRun_e (by omega)
                exact pw_zret C hr (by decide +kernel) dX10_reads_109 ⟨t1, n1, s1, Z1, q1, i, o1, i1, h1, d1, W1, by rw [hres]; rfl, by rw [hres]; exact k_38, hR1.same (fun k hk => (o_36 k (by omega))), hext, by omega, by omega, hZZ, ((o_36 1017 (by omega))).trans y17, u17, fun k hk => ((o_36 k (by omega))).trans (hf1 k hk), (hA1.nil).same (fun k hk => (o_36 k (by omega))) Ext.rf, fun _ => by rw [hres]; exact ⟨hX1.2.2.2 v rfl, by omega, by show mxL v ≤ _; have := hP.2.2.2.2.1 v rfl; omega⟩⟩
            · refine pw_aload_n (i := 0) C dX10_reads_83 rfl rfl (Or.inr ⟨_, rfl⟩) ?_
              refine pw_iconst C dX10_reads_84 ?_
              refine pw_aload_n (i := 0) C dX10_reads_85 rfl rfl (Or.inr ⟨_, rfl⟩) ?_
              refine pw_get (j := 13) C cl_X10 fl_X10_204 (by decide) rfl y0 rfl dX10_reads_86 ?_
              refine pw_stk (st' := [.int (iZ (x 13)), .int (iZ 3), .ref b]) rfl ?_
              refine pw_stk (st' := [.int (iZ ((len : Nat) : Int)), .int (iZ 3), .ref b]) (by rw [h13]) ?_
              refine pw_callV (As := [.int (iZ 3), .int (iZ ((len : Nat) : Int))]) (st := []) C (m_X10_bad g l y0 rfl) my_X10_bad ml_X10_240 (pw_rec.of C y0 cl_X10.1) rfl ⟨Nat.le_of_ble_eq_true rfl, Nat.le_of_ble_eq_true rfl⟩ ⟨by (try dsimp only); omega, by (try dsimp only); omega⟩ rfl (Nat.le_of_ble_eq_true rfl) dX10_reads_89 ?_
              rintro _ w_40 ⟨rfl, e_41, o_42⟩
              refine pw_stk (st' := []) rfl ?_
              refine pw_aload_n (i := 0) C dX10_reads_92 rfl rfl (Or.inr ⟨_, rfl⟩) ?_
              refine pw_iconst C dX10_reads_93 ?_
              refine pw_put (j := 13) C cl_X10 fl_X10_204 (by decide) rfl rfl rfl rfl rfl e_41 (Nat.le_of_ble_eq_true rfl) dX10_reads_94 (fun w_45 k_43 o_44 => ?_)
              have k_46 : w_45 1000 = (b, some (mdE B (va_up (va_up (va_up (wdX x n1 ((s1 : Nat) : Int) q1 i 0 (-1) o1 i1 h1 d1) 21 3) 22 ((len : Nat) : Int)) 13 0))) := k_43
              refine pw_aload_n (i := 0) C dX10_reads_97 rfl rfl (Or.inr ⟨_, rfl⟩) ?_
              refine pw_get (j := 21) C cl_X10 fl_X10_207 (by decide) rfl k_46 rfl dX10_reads_98 ?_
              refine pw_stk (st' := [.int (iZ 3)]) rfl ?_
              refine pw_if_ne (tgt := 108) C (by omega) dX10_reads_101 (by decide) (fun h_47 => ?_) (fun h_47 => ?_)
              · refine pw_iconst C dX10_reads_108 ?_
                have hdn : dn = none := by
                  cases hd : dn with
                  | none => rfl
                  | some v => rw [hd] at h_34; cases h_34
                subst hdn
                have hres : (rTx f len) = (3, ((len : Nat) : Int), oNil) := by rw [← hq]; exact rRun_e (by omega)
                exact pw_zret C hr (by decide +kernel) dX10_reads_109 ⟨t1, n1, s1, Z1, q1, i, o1, i1, h1, d1, W1, by rw [hres]; rfl, by rw [hres]; exact k_46, hR1.same (fun k hk => (o_44 k (by omega)).trans (o_42 k (by omega))), hext, by omega, by omega, hZZ, ((o_44 1017 (by omega)).trans (o_42 1017 (by omega))).trans y17, u17, fun k hk => ((o_44 k (by omega)).trans (o_42 k (by omega))).trans (hf1 k hk), (hA1.nil).same (fun k hk => (o_44 k (by omega)).trans (o_42 k (by omega))) Ext.rf, fun hq0 => absurd hq0 (by rw [hres]; exact (by decide : ¬ (3 : Nat) = 0))⟩
              · exfalso; omega
        · refine pw_iinc (lv' := [(0, .ref b), (1, .int (iZ (((wd : Nat) : Int) + 1)))]) C dX10_reads_54 rfl (by decide) rfl ?_
          refine pw_aload_n (i := 0) C dX10_reads_57 rfl rfl (Or.inr ⟨_, rfl⟩) ?_
          refine pw_iload_n (i := 1) C dX10_reads_58 rfl rfl ?_
          refine pw_callV (As := [.int (iZ (((wd : Nat) : Int) + 1))]) (st := []) C (m_X10_readWord g l y0 hR1 rfl rfl hK1 y12 hfc hlen (by exact h13) y17 u17 hA1 hX1 hl40 hP hwd (i := i) rfl rfl (by omega) (by omega) (by omega)) my_X10_readWord ml_X10_262 (pw_rec.of C y0 cl_X10.1) rfl ⟨Nat.le_of_ble_eq_true rfl, Nat.le_of_ble_eq_true rfl⟩ ⟨by (try dsimp only); omega, by (try dsimp only); omega⟩ rfl (Nat.le_of_ble_eq_true rfl) dX10_reads_59 ?_
          rintro _ w2 ⟨rfl, t2, n2, s2, Z2, q2, a2, pl2', o2, i2, h2, d2, W2, z0, R2, x2, hs2, hZ2, z17, uW2, hf2, hcase⟩
          have hfa5 := rFa_le (f := f) (i := i) (j := (rEnd f ((len : Nat) : Int) i)) (wd := wd) (dn := dn) (F := F)
          have x21' := x2.1
          have R2n := R2.n
          have z0 : w2 1000 = (b, some (mdE B (wdX x n2 ((s2 : Nat) : Int) q2 a2 (((rFa f i (rEnd f ((len : Nat) : Int) i) wd dn F) : Nat) : Int) pl2' o2 i2 h2 d2))) := z0
          have z12 : w2 1013 = (B 12, some (AI g 3000 f)) := (hf2 1013 (by omega)).trans y12
          have hre := rEnd_rng (f := f) (len := ((len : Nat) : Int)) (i := i) (by omega)
          by_cases hfz : (rFa f i (rEnd f ((len : Nat) : Int) i) wd dn F) = 0
          · rw [if_pos hfz] at hcase
            obtain ⟨c1, c2, c3, c4, c5⟩ := hcase
            subst c2
            have hpl : pl2' = -1 := c1
            subst hpl
            rw [hfz] at z0 c4
            have z0 : w2 1000 = (b, some (mdE B (wdX x n2 ((s2 : Nat) : Int) q2 (rEnd f ((len : Nat) : Int) i) 0 (-1) o2 i2 h2 d2))) := z0
            obtain ⟨hP4, hl4⟩ := rTk_ok hP hl40 hfz
            have hwd1 := (rFa_0 hfz).2.2.2.2
            refine pw_stk (st' := []) rfl ?_
            refine pw_aload_n (i := 0) C dX10_reads_62 rfl rfl (Or.inr ⟨_, rfl⟩) ?_
            refine pw_callV (As := []) (st := []) C (m_X10_skip g l z0 z12 hfc hlen (by exact h13) (i0 := (rEnd f ((len : Nat) : Int) i)) (tg := (rBl f (((len : Nat) : Int) - (rEnd f ((len : Nat) : Int) i)).toNat false (rEnd f ((len : Nat) : Int) i))) rfl (by omega) rfl) my_X10_skip ml_X10_259 (pw_rec.of C z0 cl_X10.1) rfl ⟨Nat.le_of_ble_eq_true rfl, Nat.le_of_ble_eq_true rfl⟩ ⟨by (try dsimp only); omega, by (try dsimp only); omega⟩ rfl (Nat.le_of_ble_eq_true rfl) dX10_reads_63 ?_
            rintro _ w_48 ⟨rfl, e_49, o_50⟩
            have g_51 := rBl_rng (f := f) (((len : Nat) : Int) - (rEnd f ((len : Nat) : Int) i)).toNat false (rEnd f ((len : Nat) : Int) i)
            refine pw_stk (st' := []) rfl ?_
            refine pw_goto (tgt := 36) C dX10_reads_66 (by decide) ?_
            rw [show ((wd : Nat) : Int) + 1 = ((wd + 1 : Nat) : Int) by omega]
            have hz5 := nzC_one (f := f) (i := i.toNat) (by rw [show ((i.toNat : Nat) : Int) = i by omega]; exact rFa_nz hfz)
            have hz6 := nzC_mono (f := f) (i := i.toNat + 1) (j := (rEnd f ((len : Nat) : Int) i).toNat) (by omega)
            have hz7 := nzC_mono (f := f) (i := (rEnd f ((len : Nat) : Int) i).toNat) (j := (rBl f (((len : Nat) : Int) - (rEnd f ((len : Nat) : Int) i)).toNat false (rEnd f ((len : Nat) : Int) i)).toNat) (by omega)
            refine ih w_48 t2 n2 s2 Z2 q2 (rBl f (((len : Nat) : Int) - (rEnd f ((len : Nat) : Int) i)).toNat false (rEnd f ((len : Nat) : Int) i)) o2 i2 h2 d2 W2 (wd + 1) (rTk f i (rEnd f ((len : Nat) : Int) i) dn F).1 (rTk f i (rEnd f ((len : Nat) : Int) i) dn F).2 (if atL (f i) then at1 + 1 else at1) (R2.same (fun k hk => (o_50 k (by omega)))) (hK1.ext x2) (hext.tr x2) (c3.same (fun k hk => (o_50 k (by omega))) Ext.rf) (by rw [e_49]; rfl) (MdX.of c4 Ext.rf rfl rfl rfl rfl) hP4 hl4 (by omega) ⟨by omega, by omega, by omega⟩ (by omega) ?_ ?_ (by omega) (by rw [← hq]; exact (rRun_s (by omega) hfz).symm) (fun j j0 j1 => (hZ2 j j0 (by omega)).trans (hZZ j j0 j1)) (((o_50 1017 (by omega))).trans z17) uW2 (fun k hk => ((o_50 k (by omega)).trans (hf2 k (by omega))).trans (hf1 k hk))
            · split at hs2 <;> rename_i ha
              · rw [if_pos ha]; omega
              · rw [if_neg ha]; omega
            · by_cases ha : atL (f i) = true
              · rw [if_pos ha]
                have h1 : 2 * at1 ≤ nzC f i.toNat := hat.elim (fun q => q) (fun q => by have := q.2 (by omega); rw [ha] at this; cases this)
                by_cases hsk : (rBl f (((len : Nat) : Int) - (rEnd f ((len : Nat) : Int) i)).toNat false (rEnd f ((len : Nat) : Int) i)) = (rEnd f ((len : Nat) : Int) i)
                · rw [hsk]; exact Or.inr ⟨by omega, fun q => rEnd_at (by omega) ha q⟩
                · have := nzC_one (f := f) (i := (rEnd f ((len : Nat) : Int) i).toNat) (by rw [show (((rEnd f ((len : Nat) : Int) i).toNat : Nat) : Int) = (rEnd f ((len : Nat) : Int) i) by omega]; exact rBl_f (m := (((len : Nat) : Int) - (rEnd f ((len : Nat) : Int) i)).toNat) (by omega))
                  have := nzC_mono (f := f) (i := (rEnd f ((len : Nat) : Int) i).toNat + 1) (j := (rBl f (((len : Nat) : Int) - (rEnd f ((len : Nat) : Int) i)).toNat false (rEnd f ((len : Nat) : Int) i)).toNat) (by omega)
                  exact Or.inl (by omega)
              · rw [if_neg ha]; exact Or.inl (by have := hat.elim (fun q => Nat.le_succ_of_le q) (fun q => q.1); omega)
          · rw [if_neg hfz] at hcase
            obtain ⟨c1, c3, c2, c5⟩ := hcase
            rw [c1] at z0
            refine pw_stk (st' := []) rfl ?_
            refine pw_aload_n (i := 0) C dX10_reads_62 rfl rfl (Or.inr ⟨_, rfl⟩) ?_
            refine pw_callV (As := []) (st := []) C (m_X10_skip g l z0 z12 hfc hlen (by exact h13) (i0 := a2) (tg := (rBl f (((len : Nat) : Int) - a2).toNat false a2)) rfl (by omega) rfl) my_X10_skip ml_X10_259 (pw_rec.of C z0 cl_X10.1) rfl ⟨Nat.le_of_ble_eq_true rfl, Nat.le_of_ble_eq_true rfl⟩ ⟨by (try dsimp only); omega, by (try dsimp only); omega⟩ rfl (Nat.le_of_ble_eq_true rfl) dX10_reads_63 ?_
            rintro _ w_52 ⟨rfl, e_53, o_54⟩
            have g_55 := rBl_rng (f := f) (((len : Nat) : Int) - a2).toNat false a2
            refine pw_stk (st' := []) rfl ?_
            refine pw_goto (tgt := 36) C dX10_reads_66 (by decide) ?_
            refine pw_aload_n (i := 0) C dX10_reads_36 rfl rfl (Or.inr ⟨_, rfl⟩) ?_
            refine pw_get (j := 21) C cl_X10 fl_X10_207 (by decide) rfl e_53 rfl dX10_reads_37 ?_
            refine pw_stk (st' := [.int (iZ (((rFa f i (rEnd f ((len : Nat) : Int) i) wd dn F) : Nat) : Int))]) rfl ?_
            refine pw_if_ne (tgt := 69) C (by omega) dX10_reads_40 (by decide) (fun h_56 => ?_) (fun h_56 => ?_)
            · refine pw_aload_n (i := 0) C dX10_reads_69 rfl rfl (Or.inr ⟨_, rfl⟩) ?_
              refine pw_get (j := 21) C cl_X10 fl_X10_207 (by decide) rfl e_53 rfl dX10_reads_70 ?_
              refine pw_stk (st' := [.int (iZ (((rFa f i (rEnd f ((len : Nat) : Int) i) wd dn F) : Nat) : Int))]) rfl ?_
              refine pw_if_ne (tgt := 92) C (by omega) dX10_reads_73 (by decide) (fun h_57 => ?_) (fun h_57 => ?_)
              · refine pw_aload_n (i := 0) C dX10_reads_92 rfl rfl (Or.inr ⟨_, rfl⟩) ?_
                refine pw_iconst C dX10_reads_93 ?_
                refine pw_put (j := 13) C cl_X10 fl_X10_204 (by decide) rfl rfl rfl rfl rfl e_53 (Nat.le_of_ble_eq_true rfl) dX10_reads_94 (fun w_60 k_58 o_59 => ?_)
                have k_61 : w_60 1000 = (b, some (mdE B (va_up (va_up (wdX x n2 ((s2 : Nat) : Int) q2 a2 (((rFa f i (rEnd f ((len : Nat) : Int) i) wd dn F) : Nat) : Int) i o2 i2 h2 d2) 20 (rBl f (((len : Nat) : Int) - a2).toNat false a2)) 13 0))) := k_58
                refine pw_aload_n (i := 0) C dX10_reads_97 rfl rfl (Or.inr ⟨_, rfl⟩) ?_
                refine pw_get (j := 21) C cl_X10 fl_X10_207 (by decide) rfl k_61 rfl dX10_reads_98 ?_
                refine pw_stk (st' := [.int (iZ (((rFa f i (rEnd f ((len : Nat) : Int) i) wd dn F) : Nat) : Int))]) rfl ?_
                refine pw_if_ne (tgt := 108) C (by omega) dX10_reads_101 (by decide) (fun h_62 => ?_) (fun h_62 => ?_)
                · refine pw_iconst C dX10_reads_108 ?_
                  have hres : (rTx f len) = ((rFa f i (rEnd f ((len : Nat) : Int) i) wd dn F), i, oNil) := by rw [← hq]; exact rRun_f (by omega) hfz
                  refine pw_zret C hr (by decide +kernel) dX10_reads_109 ⟨t2, n2, s2, Z2, q2, (rBl f (((len : Nat) : Int) - a2).toNat false a2), o2, i2, h2, d2, W2, ?_, ?_, R2.same (fun k hk => (o_59 k (by omega)).trans (o_54 k (by omega))), hext.tr x2, ?_, ?_, fun j j0 j1 => (hZ2 j j0 (by omega)).trans (hZZ j j0 j1), ((o_59 1017 (by omega)).trans (o_54 1017 (by omega))).trans z17, uW2, fun k hk => ((o_59 k (by omega)).trans ((o_54 k (by omega)).trans (hf2 k (by omega)))).trans (hf1 k hk), c3.same (fun k hk => (o_59 k (by omega)).trans (o_54 k (by omega))) Ext.rf, fun hq0 => absurd hq0 (by rw [hres]; exact hfz)⟩
                  · rw [hres, decide_eq_false hfz]; rfl
                  · rw [hres]; exact k_61
                  · omega
                  · split at hs2 <;> rename_i ha
                    · have h1 : 2 * at1 ≤ nzC f i.toNat := hat.elim (fun q => q) (fun q => by have := q.2 (by omega); rw [ha] at this; cases this)
                      have hz5 := nzC_one (f := f) (i := i.toNat) (by rw [show ((i.toNat : Nat) : Int) = i by omega]; exact fun e => by rw [e, atL_0] at ha; cases ha)
                      have hz6 := nzC_mono (f := f) (i := i.toNat + 1) (j := len) (by omega)
                      omega
                    · omega
                · exfalso; omega
              · exfalso; omega
            · exfalso; omega
  refine pw_aload_n (i := 0) C dX10_reads_0 rfl rfl (Or.inr ⟨_, rfl⟩) ?_
  refine pw_iconst C dX10_reads_1 ?_
  refine pw_put (j := 20) C cl_X10 fl_X10_201 (by decide) rfl rfl rfl rfl rfl h0 (Nat.le_of_ble_eq_true rfl) dX10_reads_2 (fun w_803 k_801 o_802 => ?_)
  have k_804 : w_803 1000 = (b, some (mdE B (va_up x 20 0))) := k_801
  refine pw_aload_n (i := 0) C dX10_reads_5 rfl rfl (Or.inr ⟨_, rfl⟩) ?_
  refine pw_iconst C dX10_reads_6 ?_
  refine pw_put (j := 27) C cl_X10 fl_X10_210 (by decide) rfl rfl rfl rfl rfl k_804 (Nat.le_of_ble_eq_true rfl) dX10_reads_7 (fun w_807 k_805 o_806 => ?_)
  have k_808 : w_807 1000 = (b, some (mdE B (va_up (va_up x 20 0) 27 0))) := k_805
  refine pw_aload_n (i := 0) C dX10_reads_10 rfl rfl (Or.inr ⟨_, rfl⟩) ?_
  refine pw_iconst C dX10_reads_11 ?_
  refine pw_put (j := 29) C cl_X10 fl_X10_217 (by decide) rfl rfl rfl rfl rfl k_808 (Nat.le_of_ble_eq_true rfl) dX10_reads_12 (fun w_811 k_809 o_810 => ?_)
  have k_812 : w_811 1000 = (b, some (mdE B (va_up (va_up (va_up x 20 0) 27 0) 29 0))) := k_809
  refine pw_aload_n (i := 0) C dX10_reads_15 rfl rfl (Or.inr ⟨_, rfl⟩) ?_
  refine pw_iconst C dX10_reads_16 ?_
  refine pw_put (j := 31) C cl_X10 fl_X10_213 (by decide) rfl rfl rfl (by decide +kernel) (by decide +kernel) k_812 (Nat.le_of_ble_eq_true rfl) dX10_reads_17 (fun w_815 k_813 o_814 => ?_)
  have k_816 : w_815 1000 = (b, some (mdE B (va_up (va_up (va_up (va_up x 20 0) 27 0) 29 0) 31 0))) := k_813
  refine pw_aload_n (i := 0) C dX10_reads_20 rfl rfl (Or.inr ⟨_, rfl⟩) ?_
  refine pw_iconst C dX10_reads_21 ?_
  refine pw_put (j := 21) C cl_X10 fl_X10_207 (by decide) rfl rfl rfl rfl rfl k_816 (Nat.le_of_ble_eq_true rfl) dX10_reads_22 (fun w_819 k_817 o_818 => ?_)
  have k_820 : w_819 1000 = (b, some (mdE B (va_up (va_up (va_up (va_up (va_up x 20 0) 27 0) 29 0) 31 0) 21 0))) := k_817
  refine pw_aload_n (i := 0) C dX10_reads_25 rfl rfl (Or.inr ⟨_, rfl⟩) ?_
  refine pw_iconst C dX10_reads_26 ?_
  refine pw_put (j := 22) C cl_X10 fl_X10_55 (by decide) rfl rfl rfl rfl rfl k_820 (Nat.le_of_ble_eq_true rfl) dX10_reads_27 (fun w_823 k_821 o_822 => ?_)
  have k_824 : w_823 1000 = (b, some (mdE B (va_up (va_up (va_up (va_up (va_up (va_up x 20 0) 27 0) 29 0) 31 0) 21 0) 22 (-1)))) := k_821
  refine pw_iconst C dX10_reads_30 ?_
  refine pw_istore_n (i := 1) (lv' := [(0, .ref b), (1, .int (iZ 0))]) C dX10_reads_31 rfl (by decide) rfl ?_
  refine pw_aload_n (i := 0) C dX10_reads_32 rfl rfl (Or.inr ⟨_, rfl⟩) ?_
  have y12s := ((o_822 1013 (by omega)).trans ((o_818 1013 (by omega)).trans ((o_814 1013 (by omega)).trans ((o_810 1013 (by omega)).trans ((o_806 1013 (by omega)).trans (o_802 1013 (by omega))))))).trans a12
  refine pw_callV (As := []) (st := []) C (m_X10_skip g l k_824 y12s hfc hlen (by exact h13) (i0 := 0) (tg := (rBl f (((len : Nat) : Int) - 0).toNat false 0)) rfl (by omega) rfl) my_X10_skip ml_X10_259 (pw_rec.of C k_824 cl_X10.1) rfl ⟨Nat.le_of_ble_eq_true rfl, Nat.le_of_ble_eq_true rfl⟩ ⟨by (try dsimp only); omega, by (try dsimp only); omega⟩ rfl (Nat.le_of_ble_eq_true rfl) dX10_reads_33 ?_
  rintro _ w_825 ⟨rfl, e_826, o_827⟩
  have g_828 := rBl_rng (f := f) (((len : Nat) : Int) - 0).toNat false 0
  refine pw_stk (st' := []) rfl ?_
  exact loop 1002 w_825 t n sN fZ (x 17) (rBl f (((len : Nat) : Int) - 0).toNat false 0) 0 0 (x 30) 0 fW 0 none [] 0 (hR.same (fun k hk => (o_827 k (by omega)).trans ((o_822 k (by omega)).trans ((o_818 k (by omega)).trans ((o_814 k (by omega)).trans ((o_810 k (by omega)).trans ((o_806 k (by omega)).trans (o_802 k (by omega))))))))) hK Ext.rf (hA.same (fun k hk => (o_827 k (by omega)).trans ((o_822 k (by omega)).trans ((o_818 k (by omega)).trans ((o_814 k (by omega)).trans ((o_810 k (by omega)).trans ((o_806 k (by omega)).trans (o_802 k (by omega)))))))) Ext.rf) (by rw [← h7, ← h10]; exact e_826) ⟨rfl, rfl, rfl, (fun v hv => by cases hv)⟩ RdP.start (Nat.zero_le _) (by simp only [icn, qcn]; omega) ⟨by omega, by omega, Nat.zero_le _⟩ (by omega) (by omega) (Or.inl (Nat.zero_le _)) rfl (by rw [show (((len : Nat) : Int) - 0).toNat = len by omega]; rfl) (fun _ _ _ => rfl) (((o_827 1017 (by omega)).trans ((o_822 1017 (by omega)).trans ((o_818 1017 (by omega)).trans ((o_814 1017 (by omega)).trans ((o_810 1017 (by omega)).trans ((o_806 1017 (by omega)).trans (o_802 1017 (by omega)))))))).trans a16) u16 (fun k hk => (o_827 k (by omega)).trans ((o_822 k (by omega)).trans ((o_818 k (by omega)).trans ((o_814 k (by omega)).trans ((o_810 k (by omega)).trans ((o_806 k (by omega)).trans (o_802 k (by omega))))))))

