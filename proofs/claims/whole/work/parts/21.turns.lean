/-! by turns, over copies -/
def pf_bst (much : Int) (g : Int → Int) : Nat → Int
  | 0 => g 0
  | i + 1 => if much = 0 then gf_min (pf_bst much g i) (g (i + 1)) else gf_max (pf_bst much g i) (g (i + 1))
theorem pf_bst_R {much : Int} {g : Int → Int} {B : Int} : ∀ n : Nat, (∀ f : Int, 0 ≤ f → f ≤ n → 0 ≤ g f ∧ g f ≤ B) → 0 ≤ pf_bst much g n ∧ pf_bst much g n ≤ B
  | 0, h => h 0 (by omega) (by omega)
  | n + 1, h => by
    have ih := pf_bst_R (much := much) n (fun f h0 h1 => h f h0 (by omega))
    have := h (n + 1) (by omega) (by omega)
    unfold pf_bst gf_min gf_max
    repeat' split
    all_goals omega
theorem pf_bst_congr {much : Int} {g h : Int → Int} : ∀ n : Nat, (∀ f : Int, 0 ≤ f → f ≤ n → g f = h f) → pf_bst much g n = pf_bst much h n
  | 0, e => e 0 (by omega) (by omega)
  | n + 1, e => by unfold pf_bst; rw [pf_bst_congr n (fun f h0 h1 => e f h0 (by omega)), e (n + 1) (by omega) (by omega)]
/-- one turn: z figures in all, n of them are there -/
def pf_stT (K F S z n : Int) (r : Nat) (s : Int) (nx : Int → Int) : Int := pf_bst (if (z - 1 - r - n) % 2 = 0 then 1 else 0) (fun f => nx (pf_fol K F S s (z - 1 - r) f z)) 9
def pf_VT (K F S z n : Int) : Nat → Int → Int := pf_dp (pf_stT K F S z n) (fun s => pf_fin K s z)
theorem pf_VT_R (K F S z n : Int) : ∀ (r : Nat) (s : Int), 0 ≤ s ∧ s ≤ 10 → 0 ≤ pf_VT K F S z n r s ∧ pf_VT K F S z n r s ≤ 10
  | 0, s, h => pf_fin_R h
  | r + 1, s, _ => by
    show 0 ≤ pf_bst _ _ 9 ∧ pf_bst _ _ 9 ≤ 10
    exact pf_bst_R 9 (fun f h0 h1 => pf_VT_R K F S z n r _ (pf_fol_R _ _ _ _ _ _ _))
/-- copies: each figure by p of 12 the next one -/
def pf_stO (K F S n p : Int) (x : Int → Int) (r : Nat) (s : Int) (nx : Int → Int) : Int := p * nx (pf_fol K F S s (n - 1 - r) ((x (n - 1 - r) + 1) % 10) n) + (12 - p) * nx (pf_fol K F S s (n - 1 - r) (x (n - 1 - r)) n)
def pf_VO (K F S n p : Int) (x : Int → Int) (e : Int → Int) : Nat → Int → Int := pf_dp (pf_stO K F S n p x) e
theorem pf_VO_R {K F S n p : Int} {x : Int → Int} {e : Int → Int} (hp : 0 ≤ p ∧ p ≤ 12) (he : ∀ s : Int, 0 ≤ s → s ≤ 10 → 0 ≤ e s ∧ e s ≤ 10) : ∀ (r : Nat) (s : Int), 0 ≤ s ∧ s ≤ 10 → 0 ≤ pf_VO K F S n p x e r s ∧ pf_VO K F S n p x e r s ≤ 10 * 12 ^ r
  | 0, s, h => by have := he s h.1 h.2; simpa [pf_VO, pf_dp] using this
  | r + 1, s, _ => by
    have h1 := pf_VO_R (K := K) (F := F) (S := S) (n := n) (x := x) hp he r (pf_fol K F S s (n - 1 - r) ((x (n - 1 - r) + 1) % 10) n) (pf_fol_R _ _ _ _ _ _ _)
    have h2 := pf_VO_R (K := K) (F := F) (S := S) (n := n) (x := x) hp he r (pf_fol K F S s (n - 1 - r) (x (n - 1 - r)) n) (pf_fol_R _ _ _ _ _ _ _)
    show 0 ≤ p * pf_VO K F S n p x e r _ + (12 - p) * pf_VO K F S n p x e r _ ∧ p * pf_VO K F S n p x e r _ + (12 - p) * pf_VO K F S n p x e r _ ≤ _
    generalize pf_VO K F S n p x e r (pf_fol K F S s (n - 1 - r) ((x (n - 1 - r) + 1) % 10) n) = a at h1 ⊢
    generalize pf_VO K F S n p x e r (pf_fol K F S s (n - 1 - r) (x (n - 1 - r)) n) = b at h2 ⊢
    have e1 : (12 : Int) ^ (r + 1) = 12 ^ r * 12 := Int.pow_succ 12 r
    rw [e1]
    generalize (12 : Int) ^ r = t at h1 h2 ⊢
    have h3 : 0 ≤ p * a ∧ p * a ≤ p * (10 * t) := ⟨Int.mul_nonneg hp.1 h1.1, Int.mul_le_mul_of_nonneg_left h1.2 hp.1⟩
    have h4 : 0 ≤ (12 - p) * b ∧ (12 - p) * b ≤ (12 - p) * (10 * t) := ⟨Int.mul_nonneg (by omega) h2.1, Int.mul_le_mul_of_nonneg_left h2.2 (by omega)⟩
    have h5 : p * (10 * t) + (12 - p) * (10 * t) = 10 * (t * 12) := by
      rw [← Int.add_mul, show p + (12 - p) = 12 by omega]
      omega
    omega
theorem pf_12_8 {k : Nat} (h : k ≤ 8) : (12 : Int) ^ k ≤ 429981696 := by
  have : k = 0 ∨ k = 1 ∨ k = 2 ∨ k = 3 ∨ k = 4 ∨ k = 5 ∨ k = 6 ∨ k = 7 ∨ k = 8 := by omega
  rcases this with rfl | rfl | rfl | rfl | rfl | rfl | rfl | rfl | rfl <;> decide
theorem dd_Ou_afterBestFigure_0 : decode cc_Ou_afterBestFigure 0 = .ok (.aload_n 0, 1) := by decide +kernel
theorem dd_Ou_afterBestFigure_1 : decode cc_Ou_afterBestFigure 1 = .ok (.iload_n 2, 1) := by decide +kernel
theorem dd_Ou_afterBestFigure_2 : decode cc_Ou_afterBestFigure 2 = .ok (.iconst 1, 1) := by decide +kernel
theorem dd_Ou_afterBestFigure_3 : decode cc_Ou_afterBestFigure 3 = .ok (.iadd, 1) := by decide +kernel
theorem dd_Ou_afterBestFigure_4 : decode cc_Ou_afterBestFigure 4 = .ok (.aload_n 1, 1) := by decide +kernel
theorem dd_Ou_afterBestFigure_5 : decode cc_Ou_afterBestFigure 5 = .ok (.iload_n 3, 1) := by decide +kernel
theorem dd_Ou_afterBestFigure_6 : decode cc_Ou_afterBestFigure 6 = .ok (.iload_n 2, 1) := by decide +kernel
theorem dd_Ou_afterBestFigure_7 : decode cc_Ou_afterBestFigure 7 = .ok (.iconst 0, 1) := by decide +kernel
theorem dd_Ou_afterBestFigure_8 : decode cc_Ou_afterBestFigure 8 = .ok (.iload 4, 2) := by decide +kernel
theorem dd_Ou_afterBestFigure_10 : decode cc_Ou_afterBestFigure 10 = .ok (.invokevirtual 48, 3) := by decide +kernel
theorem dd_Ou_afterBestFigure_13 : decode cc_Ou_afterBestFigure 13 = .ok (.invokevirtual 44, 3) := by decide +kernel
theorem dd_Ou_afterBestFigure_16 : decode cc_Ou_afterBestFigure 16 = .ok (.lstore 6, 2) := by decide +kernel
theorem dd_Ou_afterBestFigure_18 : decode cc_Ou_afterBestFigure 18 = .ok (.iconst 1, 1) := by decide +kernel
theorem dd_Ou_afterBestFigure_19 : decode cc_Ou_afterBestFigure 19 = .ok (.istore 8, 2) := by decide +kernel
theorem dd_Ou_afterBestFigure_21 : decode cc_Ou_afterBestFigure 21 = .ok (.iload 8, 2) := by decide +kernel
theorem dd_Ou_afterBestFigure_23 : decode cc_Ou_afterBestFigure 23 = .ok (.bipush 10, 2) := by decide +kernel
theorem dd_Ou_afterBestFigure_25 : decode cc_Ou_afterBestFigure 25 = .ok (.if_icmp .ge 52, 3) := by decide +kernel
theorem dd_Ou_afterBestFigure_28 : decode cc_Ou_afterBestFigure 28 = .ok (.aload_n 0, 1) := by decide +kernel
theorem dd_Ou_afterBestFigure_29 : decode cc_Ou_afterBestFigure 29 = .ok (.iload_n 2, 1) := by decide +kernel
theorem dd_Ou_afterBestFigure_30 : decode cc_Ou_afterBestFigure 30 = .ok (.iconst 1, 1) := by decide +kernel
theorem dd_Ou_afterBestFigure_31 : decode cc_Ou_afterBestFigure 31 = .ok (.iadd, 1) := by decide +kernel
theorem dd_Ou_afterBestFigure_32 : decode cc_Ou_afterBestFigure 32 = .ok (.aload_n 1, 1) := by decide +kernel
theorem dd_Ou_afterBestFigure_33 : decode cc_Ou_afterBestFigure 33 = .ok (.iload_n 3, 1) := by decide +kernel
theorem dd_Ou_afterBestFigure_34 : decode cc_Ou_afterBestFigure 34 = .ok (.iload_n 2, 1) := by decide +kernel
theorem dd_Ou_afterBestFigure_35 : decode cc_Ou_afterBestFigure 35 = .ok (.iload 8, 2) := by decide +kernel
theorem dd_Ou_afterBestFigure_37 : decode cc_Ou_afterBestFigure 37 = .ok (.iload 4, 2) := by decide +kernel
theorem dd_Ou_afterBestFigure_39 : decode cc_Ou_afterBestFigure 39 = .ok (.invokevirtual 48, 3) := by decide +kernel
theorem dd_Ou_afterBestFigure_42 : decode cc_Ou_afterBestFigure 42 = .ok (.invokevirtual 44, 3) := by decide +kernel
theorem dd_Ou_afterBestFigure_45 : decode cc_Ou_afterBestFigure 45 = .ok (.lstore 9, 2) := by decide +kernel
theorem dd_Ou_afterBestFigure_47 : decode cc_Ou_afterBestFigure 47 = .ok (.iload 5, 2) := by decide +kernel
theorem dd_Ou_afterBestFigure_49 : decode cc_Ou_afterBestFigure 49 = .ok (.ifCond .eq 13, 3) := by decide +kernel
theorem dd_Ou_afterBestFigure_52 : decode cc_Ou_afterBestFigure 52 = .ok (.lload 6, 2) := by decide +kernel
theorem dd_Ou_afterBestFigure_54 : decode cc_Ou_afterBestFigure 54 = .ok (.lload 9, 2) := by decide +kernel
theorem dd_Ou_afterBestFigure_56 : decode cc_Ou_afterBestFigure 56 = .ok (.invokestatic 79, 3) := by decide +kernel
theorem dd_Ou_afterBestFigure_59 : decode cc_Ou_afterBestFigure 59 = .ok (.goto 10, 3) := by decide +kernel
theorem dd_Ou_afterBestFigure_62 : decode cc_Ou_afterBestFigure 62 = .ok (.lload 6, 2) := by decide +kernel
theorem dd_Ou_afterBestFigure_64 : decode cc_Ou_afterBestFigure 64 = .ok (.lload 9, 2) := by decide +kernel
theorem dd_Ou_afterBestFigure_66 : decode cc_Ou_afterBestFigure 66 = .ok (.invokestatic 31, 3) := by decide +kernel
theorem dd_Ou_afterBestFigure_69 : decode cc_Ou_afterBestFigure 69 = .ok (.lstore 6, 2) := by decide +kernel
theorem dd_Ou_afterBestFigure_71 : decode cc_Ou_afterBestFigure 71 = .ok (.iinc 8 1, 3) := by decide +kernel
theorem dd_Ou_afterBestFigure_74 : decode cc_Ou_afterBestFigure 74 = .ok (.goto (-53), 3) := by decide +kernel
theorem dd_Ou_afterBestFigure_77 : decode cc_Ou_afterBestFigure 77 = .ok (.lload 6, 2) := by decide +kernel
theorem dd_Ou_afterBestFigure_79 : decode cc_Ou_afterBestFigure 79 = .ok (.lreturn, 1) := by decide +kernel
set_option maxRecDepth 100000 in
set_option maxHeartbeats 4000000 in
theorem ct_Ou_afterBestFigure (l : Launch) (E : gf_E) (g : Int) (μ : gf_M) (hg : gf_oGd g) (hg58 : g ≤ 58) (hG : gf_okG μ g) (k s z much : Int) (hk : 0 ≤ k ∧ k < z ∧ z ≤ 8) (hs : 0 ≤ s ∧ s ≤ 10) (hmu : much = 0 ∨ much = 1) (hv : ∀ y : Int, 0 ≤ y → y ≤ 10 → 0 ≤ μ 60 ((k + 1) * 11 + y) ∧ μ 60 ((k + 1) * 11 + y) ≤ 10) : gf_Ml l E yy_Ou_afterBestFigure cc_Ou_afterBestFigure 11 (gf_rm 2 45) 81 gf_ref μ [.ref (gf_ad E 59), .ref (gf_ad E g), .int (gf_i k), .int (gf_i s), .int (gf_i z), .int (gf_i much)] (fun r μ' => (r = pf_bst much (fun f => μ 60 ((k + 1) * 11 + pf_fol (μ g 0) (μ g 1) (μ g 2) s k f z)) 9 ∧ 0 ≤ r ∧ r ≤ 10) ∧ μ' = μ) := by
  refine gf_ml (by decide +kernel) (Nat.le_of_ble_eq_true rfl) (by decide) (fun X Q hlx C hQ => ?_)
  subst hlx
  replace C : gf_C X E cc_Ou_afterBestFigure 11 "GuardFigures$Outlook" (gf_rm 2 45) := C
  show gf_G X E Q 11 gf_φ μ 0 [(0, .ref (gf_ad E 59)), (1, .ref (gf_ad E g)), (2, .int (gf_i k)), (3, .int (gf_i s)), (4, .int (gf_i z)), (5, .int (gf_i much))] []
  refine gf_aload_n C dd_Ou_afterBestFigure_0 0 rfl ?_
  refine gf_iload_n C dd_Ou_afterBestFigure_1 2 rfl ?_
  refine gf_iconst C dd_Ou_afterBestFigure_2 ?_
  refine gf_iadd C dd_Ou_afterBestFigure_3 ?_
  refine gf_aload_n C dd_Ou_afterBestFigure_4 1 rfl ?_
  refine gf_iload_n C dd_Ou_afterBestFigure_5 3 rfl ?_
  refine gf_iload_n C dd_Ou_afterBestFigure_6 2 rfl ?_
  refine gf_iconst C dd_Ou_afterBestFigure_7 ?_
  refine gf_iload C dd_Ou_afterBestFigure_8 4 rfl ?_
  refine gf_callVi (st := [.int (gf_i (k + 1)), .ref (gf_ad E 59)]) (As := [.int (gf_i s), .int (gf_i k), .int (gf_i 0), .int (gf_i z)]) C wk_Ou_48 gf_cl0 hg (ct_Gd_follow (gf_xl X) E g s k 0 z μ hg (hG) (by omega) (by omega) (by omega)) rfl ⟨rfl, rfl, rfl, rfl⟩ (Nat.le_of_ble_eq_true rfl) rfl dd_Ou_afterBestFigure_10 (fun r10 m10 hR10 hp10 => ?_)
  have hr10 := hp10.1
  refine gf_pm hp10.2 ?_
  refine gf_callVl (st := []) (As := [.int (gf_i (k + 1)), .int (gf_i r10)]) C wk_Ou_44 gf_cl1 (show gf_is 81 59 0 1 2 by decide) (ct_Ou_valueOf (gf_xl X) E (k + 1) r10 μ (by omega) (by omega)) rfl ⟨rfl, rfl, rfl, rfl⟩ (Nat.le_of_ble_eq_true rfl) rfl dd_Ou_afterBestFigure_13 (fun r13 m13 hR13 hp13 => ?_)
  have hr13 := hp13.1
  refine gf_pm hp13.2 ?_
  have hb0 : r13 = μ 60 ((k + 1) * 11 + pf_fol (μ g 0) (μ g 1) (μ g 2) s k 0 z) := by rw [hr13, hr10.1]
  have hq0 := hv r10 (by omega) (by omega)
  rw [← hr13] at hq0
  refine gf_lstore (lv' := [(6, .long (gf_l r13)), (0, .ref (gf_ad E 59)), (1, .ref (gf_ad E g)), (2, .int (gf_i k)), (3, .int (gf_i s)), (4, .int (gf_i z)), (5, .int (gf_i much))]) C dd_Ou_afterBestFigure_16 (by decide) rfl ?_
  refine gf_iconst C dd_Ou_afterBestFigure_18 ?_
  refine gf_istore (lv' := [(8, .int (gf_i 1)), (6, .long (gf_l r13)), (0, .ref (gf_ad E 59)), (1, .ref (gf_ad E g)), (2, .int (gf_i k)), (3, .int (gf_i s)), (4, .int (gf_i z)), (5, .int (gf_i much))]) C dd_Ou_afterBestFigure_19 (by decide) rfl ?_
  have L21_1 : ∀ (N : Nat) (b f : Int) , (1 ≤ f ∧ f ≤ 10 ∧ 0 ≤ b ∧ b ≤ 10 ∧ b = pf_bst much (fun f => μ 60 ((k + 1) * 11 + pf_fol (μ g 0) (μ g 1) (μ g 2) s k f z)) (f - 1).toNat) → (10 - f).toNat < N → gf_G X E Q 11 gf_φ μ 21 [(6, .long (gf_l b)), (8, .int (gf_i f)), (0, .ref (gf_ad E 59)), (1, .ref (gf_ad E g)), (2, .int (gf_i k)), (3, .int (gf_i s)), (4, .int (gf_i z)), (5, .int (gf_i much))] [] := by
    intro N
    induction N with
    | zero => intro b f hinv hN; exact absurd hN (Nat.not_lt_zero _)
    | succ N ih21_1 =>
      intro b f hinv hN
      have hinv0 := hinv
      obtain ⟨hf0, hf1, hb2, hb3, hb4⟩ := hinv
      refine gf_iload C dd_Ou_afterBestFigure_21 1 rfl ?_
      refine gf_bipush C dd_Ou_afterBestFigure_23 (by decide +kernel) ?_
      refine gf_icmp_ge 77 C dd_Ou_afterBestFigure_25 (by decide) (by omega) (by omega) (fun h25 => ?_) (fun h25 => ?_)
      · skip
        refine gf_lload C dd_Ou_afterBestFigure_77 0 rfl ?_
        refine gf_lret C hQ dd_Ou_afterBestFigure_79 (by omega) ?_
        refine ⟨⟨?_, by omega, by omega⟩, rfl⟩
        rw [hb4, show (f - 1).toNat = 9 by omega]
      · skip
        refine gf_aload_n C dd_Ou_afterBestFigure_28 2 rfl ?_
        refine gf_iload_n C dd_Ou_afterBestFigure_29 4 rfl ?_
        refine gf_iconst C dd_Ou_afterBestFigure_30 ?_
        refine gf_iadd C dd_Ou_afterBestFigure_31 ?_
        refine gf_aload_n C dd_Ou_afterBestFigure_32 3 rfl ?_
        refine gf_iload_n C dd_Ou_afterBestFigure_33 5 rfl ?_
        refine gf_iload_n C dd_Ou_afterBestFigure_34 4 rfl ?_
        refine gf_iload C dd_Ou_afterBestFigure_35 1 rfl ?_
        refine gf_iload C dd_Ou_afterBestFigure_37 6 rfl ?_
        refine gf_callVi (st := [.int (gf_i (k + 1)), .ref (gf_ad E 59)]) (As := [.int (gf_i s), .int (gf_i k), .int (gf_i f), .int (gf_i z)]) C wk_Ou_48 gf_cl0 hg (ct_Gd_follow (gf_xl X) E g s k f z μ hg (hG) (by omega) (by omega) (by omega)) rfl ⟨rfl, rfl, rfl, rfl⟩ (Nat.le_of_ble_eq_true rfl) rfl dd_Ou_afterBestFigure_39 (fun r39 m39 hR39 hp39 => ?_)
        have hr39 := hp39.1
        refine gf_pm hp39.2 ?_
        refine gf_callVl (st := []) (As := [.int (gf_i (k + 1)), .int (gf_i r39)]) C wk_Ou_44 gf_cl1 (show gf_is 81 59 0 1 2 by decide) (ct_Ou_valueOf (gf_xl X) E (k + 1) r39 μ (by omega) (by omega)) rfl ⟨rfl, rfl, rfl, rfl⟩ (Nat.le_of_ble_eq_true rfl) rfl dd_Ou_afterBestFigure_42 (fun r42 m42 hR42 hp42 => ?_)
        have hr42 := hp42.1
        refine gf_pm hp42.2 ?_
        have hb1 : r42 = μ 60 ((k + 1) * 11 + pf_fol (μ g 0) (μ g 1) (μ g 2) s k f z) := by rw [hr42, hr39.1]
        have hq1 := hv r39 (by omega) (by omega)
        rw [← hr42] at hq1
        refine gf_lstore (lv' := [(9, .long (gf_l r42)), (6, .long (gf_l b)), (8, .int (gf_i f)), (0, .ref (gf_ad E 59)), (1, .ref (gf_ad E g)), (2, .int (gf_i k)), (3, .int (gf_i s)), (4, .int (gf_i z)), (5, .int (gf_i much))]) C dd_Ou_afterBestFigure_45 (by decide) rfl ?_
        refine gf_iload C dd_Ou_afterBestFigure_47 8 rfl ?_
        refine gf_if_eq 62 C dd_Ou_afterBestFigure_49 (by decide) (by omega) (fun h49 => ?_) (fun h49 => ?_)
        · skip
          refine gf_lload C dd_Ou_afterBestFigure_62 1 rfl ?_
          refine gf_lload C dd_Ou_afterBestFigure_64 0 rfl ?_
          refine gf_mminl C (gf_mem 604 (by decide +kernel) (by decide +kernel)) dd_Ou_afterBestFigure_66 (by omega) ⟨by decide, Nat.le_of_ble_eq_true rfl, rfl, rfl⟩ ?_
          refine gf_nml (fun x69 hx69 => ?_)
          refine gf_lstore (lv' := [(6, .long (gf_l x69)), (9, .long (gf_l r42)), (8, .int (gf_i f)), (0, .ref (gf_ad E 59)), (1, .ref (gf_ad E g)), (2, .int (gf_i k)), (3, .int (gf_i s)), (4, .int (gf_i z)), (5, .int (gf_i much))]) C dd_Ou_afterBestFigure_69 (by decide) rfl ?_
          obtain ⟨x71, hx71⟩ : ∃ y : Int, y = f + 1 := ⟨_, rfl⟩
          refine gf_iinc (q := 2) (v := x71) (lv' := [(8, .int (gf_i x71)), (6, .long (gf_l x69)), (9, .long (gf_l r42)), (0, .ref (gf_ad E 59)), (1, .ref (gf_ad E g)), (2, .int (gf_i k)), (3, .int (gf_i s)), (4, .int (gf_i z)), (5, .int (gf_i much))]) C dd_Ou_afterBestFigure_71 rfl hx71 (by decide) rfl ?_
          refine gf_goto 21 C dd_Ou_afterBestFigure_74 (by decide) ?_
          refine gf_lsub [1, 0, 3, 4, 5, 6, 7, 8] rfl ?_
          exact ih21_1 x69 x71 (by
                  refine ⟨by omega, by omega, by rw [hx69]; first | (unfold gf_max; split <;> omega) | (unfold gf_min; split <;> omega), by rw [hx69]; first | (unfold gf_max; split <;> omega) | (unfold gf_min; split <;> omega), ?_⟩
                  rw [hx69, hx71, show (f + 1 - 1).toNat = (f - 1).toNat + 1 by omega]
                  show _ = if much = 0 then gf_min _ (μ 60 ((k + 1) * 11 + pf_fol _ _ _ s k (((f - 1).toNat : Nat) + 1 : Int) z)) else gf_max _ (μ 60 ((k + 1) * 11 + pf_fol _ _ _ s k (((f - 1).toNat : Nat) + 1 : Int) z))
                  rw [show (((f - 1).toNat : Nat) + 1 : Int) = f by omega, ← hb1, ← hb4]
                  first | (rw [if_neg (by omega)]; done) | (rw [if_pos (by omega)]; done)) (by omega)
        · skip
          refine gf_lload C dd_Ou_afterBestFigure_52 1 rfl ?_
          refine gf_lload C dd_Ou_afterBestFigure_54 0 rfl ?_
          refine gf_mmaxl C (gf_mem 669 (by decide +kernel) (by decide +kernel)) dd_Ou_afterBestFigure_56 (by omega) ⟨by decide, Nat.le_of_ble_eq_true rfl, rfl, rfl⟩ ?_
          refine gf_goto 69 C dd_Ou_afterBestFigure_59 (by decide) ?_
          refine gf_nml (fun x69 hx69 => ?_)
          refine gf_lstore (lv' := [(6, .long (gf_l x69)), (9, .long (gf_l r42)), (8, .int (gf_i f)), (0, .ref (gf_ad E 59)), (1, .ref (gf_ad E g)), (2, .int (gf_i k)), (3, .int (gf_i s)), (4, .int (gf_i z)), (5, .int (gf_i much))]) C dd_Ou_afterBestFigure_69 (by decide) rfl ?_
          obtain ⟨x71, hx71⟩ : ∃ y : Int, y = f + 1 := ⟨_, rfl⟩
          refine gf_iinc (q := 2) (v := x71) (lv' := [(8, .int (gf_i x71)), (6, .long (gf_l x69)), (9, .long (gf_l r42)), (0, .ref (gf_ad E 59)), (1, .ref (gf_ad E g)), (2, .int (gf_i k)), (3, .int (gf_i s)), (4, .int (gf_i z)), (5, .int (gf_i much))]) C dd_Ou_afterBestFigure_71 rfl hx71 (by decide) rfl ?_
          refine gf_goto 21 C dd_Ou_afterBestFigure_74 (by decide) ?_
          refine gf_lsub [1, 0, 3, 4, 5, 6, 7, 8] rfl ?_
          exact ih21_1 x69 x71 (by
                  refine ⟨by omega, by omega, by rw [hx69]; first | (unfold gf_max; split <;> omega) | (unfold gf_min; split <;> omega), by rw [hx69]; first | (unfold gf_max; split <;> omega) | (unfold gf_min; split <;> omega), ?_⟩
                  rw [hx69, hx71, show (f + 1 - 1).toNat = (f - 1).toNat + 1 by omega]
                  show _ = if much = 0 then gf_min _ (μ 60 ((k + 1) * 11 + pf_fol _ _ _ s k (((f - 1).toNat : Nat) + 1 : Int) z)) else gf_max _ (μ 60 ((k + 1) * 11 + pf_fol _ _ _ s k (((f - 1).toNat : Nat) + 1 : Int) z))
                  rw [show (((f - 1).toNat : Nat) + 1 : Int) = f by omega, ← hb1, ← hb4]
                  first | (rw [if_neg (by omega)]; done) | (rw [if_pos (by omega)]; done)) (by omega)
  refine gf_lsub [1, 0, 2, 3, 4, 5, 6, 7] rfl ?_
  exact L21_1 _ r13 1 (⟨by omega, by omega, by omega, by omega, hb0⟩) (Nat.lt_succ_self _)

theorem dd_Ou_endOfTurns_0 : decode cc_Ou_endOfTurns 0 = .ok (.aload_n 2, 1) := by decide +kernel
theorem dd_Ou_endOfTurns_1 : decode cc_Ou_endOfTurns 1 = .ok (.getfield 15, 3) := by decide +kernel
theorem dd_Ou_endOfTurns_4 : decode cc_Ou_endOfTurns 4 = .ok (.iload_n 3, 1) := by decide +kernel
theorem dd_Ou_endOfTurns_5 : decode cc_Ou_endOfTurns 5 = .ok (.bipush 8, 2) := by decide +kernel
theorem dd_Ou_endOfTurns_7 : decode cc_Ou_endOfTurns 7 = .ok (.aload_n 2, 1) := by decide +kernel
theorem dd_Ou_endOfTurns_8 : decode cc_Ou_endOfTurns 8 = .ok (.getfield 15, 3) := by decide +kernel
theorem dd_Ou_endOfTurns_11 : decode cc_Ou_endOfTurns 11 = .ok (.isub, 1) := by decide +kernel
theorem dd_Ou_endOfTurns_12 : decode cc_Ou_endOfTurns 12 = .ok (.invokestatic 68, 3) := by decide +kernel
theorem dd_Ou_endOfTurns_15 : decode cc_Ou_endOfTurns 15 = .ok (.iadd, 1) := by decide +kernel
theorem dd_Ou_endOfTurns_16 : decode cc_Ou_endOfTurns 16 = .ok (.istore 4, 2) := by decide +kernel
theorem dd_Ou_endOfTurns_18 : decode cc_Ou_endOfTurns 18 = .ok (.aload_n 0, 1) := by decide +kernel
theorem dd_Ou_endOfTurns_19 : decode cc_Ou_endOfTurns 19 = .ok (.aload_n 1, 1) := by decide +kernel
theorem dd_Ou_endOfTurns_20 : decode cc_Ou_endOfTurns 20 = .ok (.iload 4, 2) := by decide +kernel
theorem dd_Ou_endOfTurns_22 : decode cc_Ou_endOfTurns 22 = .ok (.invokevirtual 71, 3) := by decide +kernel
theorem dd_Ou_endOfTurns_25 : decode cc_Ou_endOfTurns 25 = .ok (.iload 4, 2) := by decide +kernel
theorem dd_Ou_endOfTurns_27 : decode cc_Ou_endOfTurns 27 = .ok (.iconst 1, 1) := by decide +kernel
theorem dd_Ou_endOfTurns_28 : decode cc_Ou_endOfTurns 28 = .ok (.isub, 1) := by decide +kernel
theorem dd_Ou_endOfTurns_29 : decode cc_Ou_endOfTurns 29 = .ok (.istore 5, 2) := by decide +kernel
theorem dd_Ou_endOfTurns_31 : decode cc_Ou_endOfTurns 31 = .ok (.iload 5, 2) := by decide +kernel
theorem dd_Ou_endOfTurns_33 : decode cc_Ou_endOfTurns 33 = .ok (.aload_n 2, 1) := by decide +kernel
theorem dd_Ou_endOfTurns_34 : decode cc_Ou_endOfTurns 34 = .ok (.getfield 15, 3) := by decide +kernel
theorem dd_Ou_endOfTurns_37 : decode cc_Ou_endOfTurns 37 = .ok (.if_icmp .lt 65, 3) := by decide +kernel
theorem dd_Ou_endOfTurns_40 : decode cc_Ou_endOfTurns 40 = .ok (.iload 5, 2) := by decide +kernel
theorem dd_Ou_endOfTurns_42 : decode cc_Ou_endOfTurns 42 = .ok (.aload_n 2, 1) := by decide +kernel
theorem dd_Ou_endOfTurns_43 : decode cc_Ou_endOfTurns 43 = .ok (.getfield 15, 3) := by decide +kernel
theorem dd_Ou_endOfTurns_46 : decode cc_Ou_endOfTurns 46 = .ok (.isub, 1) := by decide +kernel
theorem dd_Ou_endOfTurns_47 : decode cc_Ou_endOfTurns 47 = .ok (.iconst 2, 1) := by decide +kernel
theorem dd_Ou_endOfTurns_48 : decode cc_Ou_endOfTurns 48 = .ok (.irem, 1) := by decide +kernel
theorem dd_Ou_endOfTurns_49 : decode cc_Ou_endOfTurns 49 = .ok (.ifCond .ne 7, 3) := by decide +kernel
theorem dd_Ou_endOfTurns_52 : decode cc_Ou_endOfTurns 52 = .ok (.iconst 1, 1) := by decide +kernel
theorem dd_Ou_endOfTurns_53 : decode cc_Ou_endOfTurns 53 = .ok (.goto 4, 3) := by decide +kernel
theorem dd_Ou_endOfTurns_56 : decode cc_Ou_endOfTurns 56 = .ok (.iconst 0, 1) := by decide +kernel
theorem dd_Ou_endOfTurns_57 : decode cc_Ou_endOfTurns 57 = .ok (.istore 6, 2) := by decide +kernel
theorem dd_Ou_endOfTurns_59 : decode cc_Ou_endOfTurns 59 = .ok (.iconst 0, 1) := by decide +kernel
theorem dd_Ou_endOfTurns_60 : decode cc_Ou_endOfTurns 60 = .ok (.istore 7, 2) := by decide +kernel
theorem dd_Ou_endOfTurns_62 : decode cc_Ou_endOfTurns 62 = .ok (.iload 7, 2) := by decide +kernel
theorem dd_Ou_endOfTurns_64 : decode cc_Ou_endOfTurns 64 = .ok (.bipush 11, 2) := by decide +kernel
theorem dd_Ou_endOfTurns_66 : decode cc_Ou_endOfTurns 66 = .ok (.if_icmp .ge 30, 3) := by decide +kernel
theorem dd_Ou_endOfTurns_69 : decode cc_Ou_endOfTurns 69 = .ok (.aload_n 0, 1) := by decide +kernel
theorem dd_Ou_endOfTurns_70 : decode cc_Ou_endOfTurns 70 = .ok (.iload 5, 2) := by decide +kernel
theorem dd_Ou_endOfTurns_72 : decode cc_Ou_endOfTurns 72 = .ok (.iload 7, 2) := by decide +kernel
theorem dd_Ou_endOfTurns_74 : decode cc_Ou_endOfTurns 74 = .ok (.aload_n 0, 1) := by decide +kernel
theorem dd_Ou_endOfTurns_75 : decode cc_Ou_endOfTurns 75 = .ok (.aload_n 1, 1) := by decide +kernel
theorem dd_Ou_endOfTurns_76 : decode cc_Ou_endOfTurns 76 = .ok (.iload 5, 2) := by decide +kernel
theorem dd_Ou_endOfTurns_78 : decode cc_Ou_endOfTurns 78 = .ok (.iload 7, 2) := by decide +kernel
theorem dd_Ou_endOfTurns_80 : decode cc_Ou_endOfTurns 80 = .ok (.iload 4, 2) := by decide +kernel
theorem dd_Ou_endOfTurns_82 : decode cc_Ou_endOfTurns 82 = .ok (.iload 6, 2) := by decide +kernel
theorem dd_Ou_endOfTurns_84 : decode cc_Ou_endOfTurns 84 = .ok (.invokevirtual 75, 3) := by decide +kernel
theorem dd_Ou_endOfTurns_87 : decode cc_Ou_endOfTurns 87 = .ok (.invokevirtual 37, 3) := by decide +kernel
theorem dd_Ou_endOfTurns_90 : decode cc_Ou_endOfTurns 90 = .ok (.iinc 7 1, 3) := by decide +kernel
theorem dd_Ou_endOfTurns_93 : decode cc_Ou_endOfTurns 93 = .ok (.goto (-31), 3) := by decide +kernel
theorem dd_Ou_endOfTurns_96 : decode cc_Ou_endOfTurns 96 = .ok (.iinc 5 (-1), 3) := by decide +kernel
theorem dd_Ou_endOfTurns_99 : decode cc_Ou_endOfTurns 99 = .ok (.goto (-68), 3) := by decide +kernel
theorem dd_Ou_endOfTurns_102 : decode cc_Ou_endOfTurns 102 = .ok (.iconst 0, 1) := by decide +kernel
theorem dd_Ou_endOfTurns_103 : decode cc_Ou_endOfTurns 103 = .ok (.istore 5, 2) := by decide +kernel
theorem dd_Ou_endOfTurns_105 : decode cc_Ou_endOfTurns 105 = .ok (.iconst 0, 1) := by decide +kernel
theorem dd_Ou_endOfTurns_106 : decode cc_Ou_endOfTurns 106 = .ok (.istore 6, 2) := by decide +kernel
theorem dd_Ou_endOfTurns_108 : decode cc_Ou_endOfTurns 108 = .ok (.iload 6, 2) := by decide +kernel
theorem dd_Ou_endOfTurns_110 : decode cc_Ou_endOfTurns 110 = .ok (.aload_n 2, 1) := by decide +kernel
theorem dd_Ou_endOfTurns_111 : decode cc_Ou_endOfTurns 111 = .ok (.getfield 15, 3) := by decide +kernel
theorem dd_Ou_endOfTurns_114 : decode cc_Ou_endOfTurns 114 = .ok (.if_icmp .ge 28, 3) := by decide +kernel
theorem dd_Ou_endOfTurns_117 : decode cc_Ou_endOfTurns 117 = .ok (.aload_n 1, 1) := by decide +kernel
theorem dd_Ou_endOfTurns_118 : decode cc_Ou_endOfTurns 118 = .ok (.iload 5, 2) := by decide +kernel
theorem dd_Ou_endOfTurns_120 : decode cc_Ou_endOfTurns 120 = .ok (.iload 6, 2) := by decide +kernel
theorem dd_Ou_endOfTurns_122 : decode cc_Ou_endOfTurns 122 = .ok (.aload_n 2, 1) := by decide +kernel
theorem dd_Ou_endOfTurns_123 : decode cc_Ou_endOfTurns 123 = .ok (.getfield 54, 3) := by decide +kernel
theorem dd_Ou_endOfTurns_126 : decode cc_Ou_endOfTurns 126 = .ok (.iload 6, 2) := by decide +kernel
theorem dd_Ou_endOfTurns_128 : decode cc_Ou_endOfTurns 128 = .ok (.iaload, 1) := by decide +kernel
theorem dd_Ou_endOfTurns_129 : decode cc_Ou_endOfTurns 129 = .ok (.iload 4, 2) := by decide +kernel
theorem dd_Ou_endOfTurns_131 : decode cc_Ou_endOfTurns 131 = .ok (.invokevirtual 48, 3) := by decide +kernel
theorem dd_Ou_endOfTurns_134 : decode cc_Ou_endOfTurns 134 = .ok (.istore 5, 2) := by decide +kernel
theorem dd_Ou_endOfTurns_136 : decode cc_Ou_endOfTurns 136 = .ok (.iinc 6 1, 3) := by decide +kernel
theorem dd_Ou_endOfTurns_139 : decode cc_Ou_endOfTurns 139 = .ok (.goto (-31), 3) := by decide +kernel
theorem dd_Ou_endOfTurns_142 : decode cc_Ou_endOfTurns 142 = .ok (.aload_n 0, 1) := by decide +kernel
theorem dd_Ou_endOfTurns_143 : decode cc_Ou_endOfTurns 143 = .ok (.aload_n 2, 1) := by decide +kernel
theorem dd_Ou_endOfTurns_144 : decode cc_Ou_endOfTurns 144 = .ok (.getfield 15, 3) := by decide +kernel
theorem dd_Ou_endOfTurns_147 : decode cc_Ou_endOfTurns 147 = .ok (.iload 5, 2) := by decide +kernel
theorem dd_Ou_endOfTurns_149 : decode cc_Ou_endOfTurns 149 = .ok (.invokevirtual 44, 3) := by decide +kernel
theorem dd_Ou_endOfTurns_152 : decode cc_Ou_endOfTurns 152 = .ok (.l2i, 1) := by decide +kernel
theorem dd_Ou_endOfTurns_153 : decode cc_Ou_endOfTurns 153 = .ok (.ireturn, 1) := by decide +kernel
set_option maxRecDepth 100000 in
set_option maxHeartbeats 4000000 in
theorem ct_Ou_endOfTurns (l : Launch) (E : gf_E) (g : Int) (μ : gf_M) (hg : gf_oGd g) (hg58 : g ≤ 58) (hG : gf_okG μ g) (t : Int) (ht : 0 ≤ t ∧ t ≤ 4) (hs : 0 ≤ μ 41 1 ∧ μ 41 1 ≤ 8) (hF : gf_okF μ 42 (μ 41 1)) : gf_Mi l E yy_Ou_endOfTurns cc_Ou_endOfTurns 8 .int (gf_rm 3 75) 81 gf_ref μ [.ref (gf_ad E 59), .ref (gf_ad E g), .ref (gf_ad E 41), .int (gf_i t)] (fun r μ' => (r = pf_VT (μ g 0) (μ g 1) (μ g 2) (μ 41 1 + gf_min t (8 - μ 41 1)) (μ 41 1) (gf_min t (8 - μ 41 1)).toNat (pf_rec (μ g 0) (μ g 1) (μ g 2) (μ 42) (μ 41 1 + gf_min t (8 - μ 41 1)) (μ 41 1).toNat) ∧ 0 ≤ r ∧ r ≤ 10) ∧ ∀ x y : Int, x ≠ 60 → μ' x y = μ x y) := by
  refine gf_mi (by decide +kernel) (Nat.le_of_ble_eq_true rfl) (by decide) (fun X Q hlx C hQ => ?_)
  subst hlx
  replace C : gf_C X E cc_Ou_endOfTurns 8 "GuardFigures$Outlook" (gf_rm 3 75) := C
  show gf_G X E Q 8 gf_φ μ 0 [(0, .ref (gf_ad E 59)), (1, .ref (gf_ad E g)), (2, .ref (gf_ad E 41)), (3, .int (gf_i t))] []
  have hmin : 0 ≤ gf_min t (8 - μ 41 1) ∧ gf_min t (8 - μ 41 1) ≤ 8 - μ 41 1 := by unfold gf_min; split <;> omega
  refine gf_aload_n C dd_Ou_endOfTurns_0 2 rfl ?_
  refine gf_getI (z := 1) C gf_cl5 fl_Ou_15 dd_Ou_endOfTurns_1 rfl rfl (show gf_is 81 41 0 5 5 by decide) (fun hv1 => ?_)
  refine gf_iload_n C dd_Ou_endOfTurns_4 3 rfl ?_
  refine gf_bipush C dd_Ou_endOfTurns_5 (by decide +kernel) ?_
  refine gf_aload_n C dd_Ou_endOfTurns_7 2 rfl ?_
  refine gf_getI (z := 1) C gf_cl5 fl_Ou_15 dd_Ou_endOfTurns_8 rfl rfl (show gf_is 81 41 0 5 5 by decide) (fun hv8 => ?_)
  refine gf_isub C dd_Ou_endOfTurns_11 ?_
  refine gf_mmin C (gf_mem 660 (by decide +kernel) (by decide +kernel)) dd_Ou_endOfTurns_12 (by omega) ⟨by decide, Nat.le_of_ble_eq_true rfl, rfl, rfl⟩ ?_
  refine gf_iadd C dd_Ou_endOfTurns_15 ?_
  refine gf_nm (fun x16 hx16 => ?_)
  refine gf_istore (lv' := [(4, .int (gf_i x16)), (0, .ref (gf_ad E 59)), (1, .ref (gf_ad E g)), (2, .ref (gf_ad E 41)), (3, .int (gf_i t))]) C dd_Ou_endOfTurns_16 (by decide) rfl ?_
  have hz2 : x16 = μ 41 1 + gf_min t (8 - μ 41 1) := hx16
  obtain ⟨VV, hVV⟩ : ∃ y, y = pf_VT (μ g 0) (μ g 1) (μ g 2) x16 (μ 41 1) := ⟨_, rfl⟩
  have hVR : ∀ (r : Nat) (s : Int), 0 ≤ s → s ≤ 10 → 0 ≤ VV r s ∧ VV r s ≤ 10 := fun r s h0 h1 => by rw [hVV]; exact pf_VT_R _ _ _ _ _ r s ⟨h0, h1⟩
  refine gf_aload_n C dd_Ou_endOfTurns_18 1 rfl ?_
  refine gf_aload_n C dd_Ou_endOfTurns_19 2 rfl ?_
  refine gf_iload C dd_Ou_endOfTurns_20 0 rfl ?_
  refine gf_callVv (st := []) (As := [.ref (gf_ad E g), .int (gf_i x16)]) C wk_Ou_71 gf_cl1 (show gf_is 81 59 0 1 2 by decide) (ct_Ou_endWithReckoned (gf_xl X) E g μ hg hg58 hG x16 (by omega)) rfl ⟨rfl, rfl, rfl, rfl⟩ (Nat.le_of_ble_eq_true rfl) rfl dd_Ou_endOfTurns_22 (fun m22 hp22 => ?_)
  obtain ⟨hp22a, hp22b⟩ := hp22
  refine gf_iload C dd_Ou_endOfTurns_25 0 rfl ?_
  refine gf_iconst C dd_Ou_endOfTurns_27 ?_
  refine gf_isub C dd_Ou_endOfTurns_28 ?_
  refine gf_nm (fun x29 hx29 => ?_)
  refine gf_istore (lv' := [(5, .int (gf_i x29)), (4, .int (gf_i x16)), (0, .ref (gf_ad E 59)), (1, .ref (gf_ad E g)), (2, .ref (gf_ad E 41)), (3, .int (gf_i t))]) C dd_Ou_endOfTurns_29 (by decide) rfl ?_
  have L31_1 : ∀ (N : Nat) (k : Int) (m : gf_M) , (μ 41 1 - 1 ≤ k ∧ k < x16 ∧ gf_tb m x16 VV (k + 1) ∧ ∀ x y : Int, x ≠ 60 → m x y = μ x y) → (k + 1).toNat < N → gf_G X E Q 8 gf_φ m 31 [(5, .int (gf_i k)), (0, .ref (gf_ad E 59)), (1, .ref (gf_ad E g)), (2, .ref (gf_ad E 41)), (3, .int (gf_i t)), (4, .int (gf_i x16))] [] := by
    intro N
    induction N with
    | zero => intro k m hinv hN; exact absurd hN (Nat.not_lt_zero _)
    | succ N ih31_1 =>
      intro k m hinv hN
      have hinv0 := hinv
      obtain ⟨hk0, hk1, hk2, hk3⟩ := hinv
      have e41 : m 41 1 = μ 41 1 := hk3 41 1 (by decide)
      refine gf_iload C dd_Ou_endOfTurns_31 0 rfl ?_
      refine gf_aload_n C dd_Ou_endOfTurns_33 3 rfl ?_
      refine gf_getI (z := 1) C gf_cl5 fl_Ou_15 dd_Ou_endOfTurns_34 rfl rfl (show gf_is 81 41 0 5 5 by decide) (fun hv34 => ?_)
      refine gf_icmp_lt 102 C dd_Ou_endOfTurns_37 (by decide) (by omega) (by omega) (fun h37 => ?_) (fun h37 => ?_)
      · skip
        have hG108 : gf_okG m g := by unfold gf_okG; rw [hk3 g 0 (by omega), hk3 g 1 (by omega), hk3 g 2 (by omega)]; exact hG
        have hkk : k = μ 41 1 - 1 := by omega
        have htbN : gf_tb m x16 VV (μ 41 1) := by have := hk2; rw [hkk, show μ 41 1 - 1 + 1 = μ 41 1 by omega] at this; exact this
        clear hk2 hk0 hk1 hkk
        refine gf_iconst C dd_Ou_endOfTurns_102 ?_
        refine gf_istore (lv' := [(5, .int (gf_i 0)), (0, .ref (gf_ad E 59)), (1, .ref (gf_ad E g)), (2, .ref (gf_ad E 41)), (3, .int (gf_i t)), (4, .int (gf_i x16))]) C dd_Ou_endOfTurns_103 (by decide) rfl ?_
        refine gf_iconst C dd_Ou_endOfTurns_105 ?_
        refine gf_istore (lv' := [(6, .int (gf_i 0)), (5, .int (gf_i 0)), (0, .ref (gf_ad E 59)), (1, .ref (gf_ad E g)), (2, .ref (gf_ad E 41)), (3, .int (gf_i t)), (4, .int (gf_i x16))]) C dd_Ou_endOfTurns_106 (by decide) rfl ?_
        have L108_2 : ∀ (N : Nat) (s k : Int) , (0 ≤ k ∧ k ≤ μ 41 1 ∧ s = pf_rec (μ g 0) (μ g 1) (μ g 2) (μ 42) x16 k.toNat) → (8 - k).toNat < N → gf_G X E Q 8 gf_φ m 108 [(5, .int (gf_i s)), (6, .int (gf_i k)), (0, .ref (gf_ad E 59)), (1, .ref (gf_ad E g)), (2, .ref (gf_ad E 41)), (3, .int (gf_i t)), (4, .int (gf_i x16))] [] := by
          intro N
          induction N with
          | zero => intro s k hinv hN; exact absurd hN (Nat.not_lt_zero _)
          | succ N ih108_2 =>
            intro s k hinv hN
            have hinv0 := hinv
            obtain ⟨hq0, hq1, hq2⟩ := hinv
            have hsR := pf_rec_R (μ g 0) (μ g 1) (μ g 2) (μ 42) x16 k.toNat
            rw [← hq2] at hsR
            refine gf_iload C dd_Ou_endOfTurns_108 1 rfl ?_
            refine gf_aload_n C dd_Ou_endOfTurns_110 4 rfl ?_
            refine gf_getI (z := 1) C gf_cl5 fl_Ou_15 dd_Ou_endOfTurns_111 rfl rfl (show gf_is 81 41 0 5 5 by decide) (fun hv111 => ?_)
            refine gf_icmp_ge 142 C dd_Ou_endOfTurns_114 (by decide) (by omega) (by omega) (fun h114 => ?_) (fun h114 => ?_)
            · skip
              refine gf_aload_n C dd_Ou_endOfTurns_142 2 rfl ?_
              refine gf_aload_n C dd_Ou_endOfTurns_143 4 rfl ?_
              refine gf_getI (z := 1) C gf_cl5 fl_Ou_15 dd_Ou_endOfTurns_144 rfl rfl (show gf_is 81 41 0 5 5 by decide) (fun hv144 => ?_)
              refine gf_iload C dd_Ou_endOfTurns_147 0 rfl ?_
              refine gf_callVl (st := []) (As := [.int (gf_i (m 41 1)), .int (gf_i s)]) C wk_Ou_44 gf_cl1 (show gf_is 81 59 0 1 2 by decide) (ct_Ou_valueOf (gf_xl X) E (m 41 1) s m (by omega) (by omega)) rfl ⟨rfl, rfl, rfl, rfl⟩ (Nat.le_of_ble_eq_true rfl) rfl dd_Ou_endOfTurns_149 (fun r149 m149 hR149 hp149 => ?_)
              have hr149 := hp149.1
              refine gf_pm hp149.2 ?_
              have hve : r149 = VV (x16 - μ 41 1).toNat s := by rw [hr149, e41, htbN (μ 41 1) s (by omega) (by omega) (by omega) (by omega)]
              have hvr := hVR (x16 - μ 41 1).toNat s (by omega) (by omega)
              refine gf_gl2i C dd_Ou_endOfTurns_152 ?_
              refine gf_iret C hQ dd_Ou_endOfTurns_153 (by omega) ?_
              refine ⟨⟨?_, by omega, by omega⟩, hk3⟩
              rw [hve, hVV, hq2, show k = μ 41 1 by omega, ← hz2, show (x16 - μ 41 1).toNat = (gf_min t (8 - μ 41 1)).toNat by omega]
            · skip
              refine gf_aload_n C dd_Ou_endOfTurns_117 3 rfl ?_
              refine gf_iload C dd_Ou_endOfTurns_118 0 rfl ?_
              refine gf_iload C dd_Ou_endOfTurns_120 1 rfl ?_
              refine gf_aload_n C dd_Ou_endOfTurns_122 4 rfl ?_
              refine gf_getA (r := 42) C gf_cl5 fl_Ou_54 dd_Ou_endOfTurns_123 rfl (show gf_is 81 41 0 5 5 by decide) (by decide) (by decide) ?_
              refine gf_iload C dd_Ou_endOfTurns_126 1 rfl ?_
              have hfk := hF k (by omega) (by omega)
              have efk : m 42 k = μ 42 k := hk3 42 k (by decide)
              refine gf_iald C dd_Ou_endOfTurns_128 (show gf_is 81 42 1 0 8 by decide) (by omega) (fun hv128 => ?_)
              refine gf_iload C dd_Ou_endOfTurns_129 6 rfl ?_
              refine gf_callVi (st := []) (As := [.int (gf_i s), .int (gf_i k), .int (gf_i (m 42 k)), .int (gf_i x16)]) C wk_Ou_48 gf_cl0 hg (ct_Gd_follow (gf_xl X) E g s k (m 42 k) x16 m hg (hG108) (by omega) (by omega) (by omega)) rfl ⟨rfl, rfl, rfl, rfl⟩ (Nat.le_of_ble_eq_true rfl) rfl dd_Ou_endOfTurns_131 (fun r131 m131 hR131 hp131 => ?_)
              have hr131 := hp131.1
              refine gf_pm hp131.2 ?_
              refine gf_istore (lv' := [(5, .int (gf_i r131)), (6, .int (gf_i k)), (0, .ref (gf_ad E 59)), (1, .ref (gf_ad E g)), (2, .ref (gf_ad E 41)), (3, .int (gf_i t)), (4, .int (gf_i x16))]) C dd_Ou_endOfTurns_134 (by decide) rfl ?_
              obtain ⟨x136, hx136⟩ : ∃ y : Int, y = k + 1 := ⟨_, rfl⟩
              refine gf_iinc (q := 1) (v := x136) (lv' := [(6, .int (gf_i x136)), (5, .int (gf_i r131)), (0, .ref (gf_ad E 59)), (1, .ref (gf_ad E g)), (2, .ref (gf_ad E 41)), (3, .int (gf_i t)), (4, .int (gf_i x16))]) C dd_Ou_endOfTurns_136 rfl hx136 (by decide) rfl ?_
              refine gf_goto 108 C dd_Ou_endOfTurns_139 (by decide) ?_
              refine gf_lsub [1, 0, 2, 3, 4, 5, 6] rfl ?_
              exact ih108_2 r131 x136 (by
                        refine ⟨by omega, by omega, ?_⟩
                        rw [hr131.1, hx136, show (k + 1).toNat = k.toNat + 1 by omega, hk3 g 0 (by omega), hk3 g 1 (by omega), hk3 g 2 (by omega), hq2, hk3 42 k (by decide)]
                        show _ = pf_fol _ _ _ _ ((k.toNat : Nat) : Int) (μ 42 ((k.toNat : Nat) : Int)) x16
                        rw [show ((k.toNat : Nat) : Int) = k by omega]) (by omega)
        refine gf_lsub [1, 0, 2, 3, 4, 5, 6] rfl ?_
        exact L108_2 _ 0 0 (⟨by omega, by omega, rfl⟩) (Nat.lt_succ_self _)
      · skip
        refine gf_iload C dd_Ou_endOfTurns_40 0 rfl ?_
        refine gf_aload_n C dd_Ou_endOfTurns_42 3 rfl ?_
        refine gf_getI (z := 1) C gf_cl5 fl_Ou_15 dd_Ou_endOfTurns_43 rfl rfl (show gf_is 81 41 0 5 5 by decide) (fun hv43 => ?_)
        refine gf_isub C dd_Ou_endOfTurns_46 ?_
        refine gf_iconst C dd_Ou_endOfTurns_47 ?_
        refine gf_irem C dd_Ou_endOfTurns_48 (by omega) ?_
        refine gf_if_ne 56 C dd_Ou_endOfTurns_49 (by decide) (by omega) (fun h49 => ?_) (fun h49 => ?_)
        · skip
          refine gf_iconst C dd_Ou_endOfTurns_56 ?_
          refine gf_istore (lv' := [(6, .int (gf_i 0)), (5, .int (gf_i k)), (0, .ref (gf_ad E 59)), (1, .ref (gf_ad E g)), (2, .ref (gf_ad E 41)), (3, .int (gf_i t)), (4, .int (gf_i x16))]) C dd_Ou_endOfTurns_57 (by decide) rfl ?_
          have hmuch : (0 : Int) = if (k - μ 41 1) % 2 = 0 then 1 else 0 := by first | (rw [if_pos (by omega)]; done) | (rw [if_neg (by omega)]; done)
          refine gf_iconst C dd_Ou_endOfTurns_59 ?_
          refine gf_istore (lv' := [(7, .int (gf_i 0)), (6, .int (gf_i 0)), (5, .int (gf_i k)), (0, .ref (gf_ad E 59)), (1, .ref (gf_ad E g)), (2, .ref (gf_ad E 41)), (3, .int (gf_i t)), (4, .int (gf_i x16))]) C dd_Ou_endOfTurns_60 (by decide) rfl ?_
          have L62_3 : ∀ (N : Nat) (s : Int) (m' : gf_M) , (0 ≤ s ∧ s ≤ 11 ∧ gf_tb m' x16 VV (k + 1) ∧ gf_tr m' x16 VV k s ∧ ∀ x y : Int, x ≠ 60 → m' x y = μ x y) → (11 - s).toNat < N → gf_G X E Q 8 gf_φ m' 62 [(7, .int (gf_i s)), (0, .ref (gf_ad E 59)), (1, .ref (gf_ad E g)), (2, .ref (gf_ad E 41)), (3, .int (gf_i t)), (4, .int (gf_i x16)), (5, .int (gf_i k)), (6, .int (gf_i 0))] [] := by
            intro N
            induction N with
            | zero => intro s m' hinv hN; exact absurd hN (Nat.not_lt_zero _)
            | succ N ih62_3 =>
              intro s m' hinv hN
              have hinv0 := hinv
              obtain ⟨hs0, hs1, htb, htr, ef62⟩ := hinv
              have hG62 : gf_okG m' g := by unfold gf_okG; rw [ef62 g 0 (by omega), ef62 g 1 (by omega), ef62 g 2 (by omega)]; exact hG
              have hvb : ∀ y : Int, 0 ≤ y → y ≤ 10 → 0 ≤ m' 60 ((k + 1) * 11 + y) ∧ m' 60 ((k + 1) * 11 + y) ≤ 10 := fun y h0 h1 => by rw [htb (k + 1) y (by omega) (by omega) h0 h1]; exact hVR _ y h0 h1
              refine gf_iload C dd_Ou_endOfTurns_62 0 rfl ?_
              refine gf_bipush C dd_Ou_endOfTurns_64 (by decide +kernel) ?_
              refine gf_icmp_ge 96 C dd_Ou_endOfTurns_66 (by decide) (by omega) (by omega) (fun h66 => ?_) (fun h66 => ?_)
              · skip
                obtain ⟨x96, hx96⟩ : ∃ y : Int, y = k + (-1) := ⟨_, rfl⟩
                refine gf_iinc (q := 6) (v := x96) (lv' := [(5, .int (gf_i x96)), (7, .int (gf_i s)), (0, .ref (gf_ad E 59)), (1, .ref (gf_ad E g)), (2, .ref (gf_ad E 41)), (3, .int (gf_i t)), (4, .int (gf_i x16)), (6, .int (gf_i 0))]) C dd_Ou_endOfTurns_96 rfl hx96 (by decide) rfl ?_
                refine gf_goto 31 C dd_Ou_endOfTurns_99 (by decide) ?_
                refine gf_lsub [0, 2, 3, 4, 5, 6] rfl ?_
                exact ih31_1 x96 m' (⟨by omega, by omega, by rw [hx96, show k + -1 + 1 = k by omega]; exact gf_tb_row htb (by rw [show (11 : Int) = s by omega]; exact htr), ef62⟩) (by omega)
              · skip
                refine gf_aload_n C dd_Ou_endOfTurns_69 1 rfl ?_
                refine gf_iload C dd_Ou_endOfTurns_70 6 rfl ?_
                refine gf_iload C dd_Ou_endOfTurns_72 0 rfl ?_
                refine gf_aload_n C dd_Ou_endOfTurns_74 1 rfl ?_
                refine gf_aload_n C dd_Ou_endOfTurns_75 2 rfl ?_
                refine gf_iload C dd_Ou_endOfTurns_76 6 rfl ?_
                refine gf_iload C dd_Ou_endOfTurns_78 0 rfl ?_
                refine gf_iload C dd_Ou_endOfTurns_80 5 rfl ?_
                refine gf_iload C dd_Ou_endOfTurns_82 7 rfl ?_
                refine gf_callVl (st := [.int (gf_i s), .int (gf_i k), .ref (gf_ad E 59)]) (As := [.ref (gf_ad E g), .int (gf_i k), .int (gf_i s), .int (gf_i x16), .int (gf_i 0)]) C wk_Ou_75 gf_cl1 (show gf_is 81 59 0 1 2 by decide) (ct_Ou_afterBestFigure (gf_xl X) E g m' hg hg58 hG62 k s x16 0 (by omega) (by omega) (by omega) hvb) rfl ⟨rfl, rfl, rfl, rfl⟩ (Nat.le_of_ble_eq_true rfl) rfl dd_Ou_endOfTurns_84 (fun r84 m84 hR84 hp84 => ?_)
                have hr84 := hp84.1
                refine gf_pm hp84.2 ?_
                refine gf_callVv (st := []) (As := [.int (gf_i k), .int (gf_i s), .long (gf_l r84)]) C wk_Ou_37 gf_cl1 (show gf_is 81 59 0 1 2 by decide) (ct_Ou_keepValue (gf_xl X) E k s r84 m' (by omega) (by omega) (by omega)) rfl ⟨rfl, rfl, rfl, rfl⟩ (Nat.le_of_ble_eq_true rfl) rfl dd_Ou_endOfTurns_87 (fun m87 hp87 => ?_)
                obtain ⟨x90, hx90⟩ : ∃ y : Int, y = s + 1 := ⟨_, rfl⟩
                refine gf_iinc (q := 0) (v := x90) (lv' := [(7, .int (gf_i x90)), (0, .ref (gf_ad E 59)), (1, .ref (gf_ad E g)), (2, .ref (gf_ad E 41)), (3, .int (gf_i t)), (4, .int (gf_i x16)), (5, .int (gf_i k)), (6, .int (gf_i 0))]) C dd_Ou_endOfTurns_90 rfl hx90 (by decide) rfl ?_
                refine gf_goto 62 C dd_Ou_endOfTurns_93 (by decide) ?_
                refine gf_lsub [0, 1, 2, 3, 4, 5, 6, 7] rfl ?_
                exact ih62_3 x90 m87 (by
                            have hbe : r84 = VV (x16 - k).toNat s := by
                              rw [hr84.1, ef62 g 0 (by omega), ef62 g 1 (by omega), ef62 g 2 (by omega), show (x16 - k).toNat = (x16 - 1 - k).toNat + 1 by omega, hVV]
                              show _ = pf_bst (if (x16 - 1 - ((x16 - 1 - k).toNat : Nat) - μ 41 1) % 2 = 0 then 1 else 0) (fun f => pf_dp _ _ (x16 - 1 - k).toNat (pf_fol _ _ _ s (x16 - 1 - ((x16 - 1 - k).toNat : Nat)) f x16)) 9
                              rw [show (x16 - 1 - ((x16 - 1 - k).toNat : Nat) : Int) = k by omega, ← hmuch]
                              refine pf_bst_congr 9 (fun f h0 h1 => ?_)
                              have hz := pf_fol_R (μ g 0) (μ g 1) (μ g 2) s k f x16
                              show m' 60 ((k + 1) * 11 + pf_fol (μ g 0) (μ g 1) (μ g 2) s k f x16) = _
                              rw [htb (k + 1) _ (by omega) (by omega) hz.1 hz.2, hVV, show (x16 - (k + 1)).toNat = (x16 - 1 - k).toNat by omega]
                              rfl
                            have hkp := gf_tb_keep (by omega) hp87 htb htr hbe
                            exact ⟨by omega, by omega, hkp.1, by rw [hx90]; exact hkp.2, fun x y h => by rw [hp87, gf_up_k h]; exact ef62 x y h⟩) (by omega)
          refine gf_lsub [0, 3, 4, 5, 6, 7, 2, 1] rfl ?_
          exact L62_3 _ 0 m (⟨by omega, by omega, hk2, fun y h0 h1 => by omega, hk3⟩) (Nat.lt_succ_self _)
        · skip
          refine gf_iconst C dd_Ou_endOfTurns_52 ?_
          refine gf_goto 57 C dd_Ou_endOfTurns_53 (by decide) ?_
          refine gf_istore (lv' := [(6, .int (gf_i 1)), (5, .int (gf_i k)), (0, .ref (gf_ad E 59)), (1, .ref (gf_ad E g)), (2, .ref (gf_ad E 41)), (3, .int (gf_i t)), (4, .int (gf_i x16))]) C dd_Ou_endOfTurns_57 (by decide) rfl ?_
          have hmuch : (1 : Int) = if (k - μ 41 1) % 2 = 0 then 1 else 0 := by first | (rw [if_pos (by omega)]; done) | (rw [if_neg (by omega)]; done)
          refine gf_iconst C dd_Ou_endOfTurns_59 ?_
          refine gf_istore (lv' := [(7, .int (gf_i 0)), (6, .int (gf_i 1)), (5, .int (gf_i k)), (0, .ref (gf_ad E 59)), (1, .ref (gf_ad E g)), (2, .ref (gf_ad E 41)), (3, .int (gf_i t)), (4, .int (gf_i x16))]) C dd_Ou_endOfTurns_60 (by decide) rfl ?_
          have L62_4 : ∀ (N : Nat) (s : Int) (m' : gf_M) , (0 ≤ s ∧ s ≤ 11 ∧ gf_tb m' x16 VV (k + 1) ∧ gf_tr m' x16 VV k s ∧ ∀ x y : Int, x ≠ 60 → m' x y = μ x y) → (11 - s).toNat < N → gf_G X E Q 8 gf_φ m' 62 [(7, .int (gf_i s)), (0, .ref (gf_ad E 59)), (1, .ref (gf_ad E g)), (2, .ref (gf_ad E 41)), (3, .int (gf_i t)), (4, .int (gf_i x16)), (5, .int (gf_i k)), (6, .int (gf_i 1))] [] := by
            intro N
            induction N with
            | zero => intro s m' hinv hN; exact absurd hN (Nat.not_lt_zero _)
            | succ N ih62_4 =>
              intro s m' hinv hN
              have hinv0 := hinv
              obtain ⟨hs0, hs1, htb, htr, ef62⟩ := hinv
              have hG62 : gf_okG m' g := by unfold gf_okG; rw [ef62 g 0 (by omega), ef62 g 1 (by omega), ef62 g 2 (by omega)]; exact hG
              have hvb : ∀ y : Int, 0 ≤ y → y ≤ 10 → 0 ≤ m' 60 ((k + 1) * 11 + y) ∧ m' 60 ((k + 1) * 11 + y) ≤ 10 := fun y h0 h1 => by rw [htb (k + 1) y (by omega) (by omega) h0 h1]; exact hVR _ y h0 h1
              refine gf_iload C dd_Ou_endOfTurns_62 0 rfl ?_
              refine gf_bipush C dd_Ou_endOfTurns_64 (by decide +kernel) ?_
              refine gf_icmp_ge 96 C dd_Ou_endOfTurns_66 (by decide) (by omega) (by omega) (fun h66 => ?_) (fun h66 => ?_)
              · skip
                obtain ⟨x96, hx96⟩ : ∃ y : Int, y = k + (-1) := ⟨_, rfl⟩
                refine gf_iinc (q := 6) (v := x96) (lv' := [(5, .int (gf_i x96)), (7, .int (gf_i s)), (0, .ref (gf_ad E 59)), (1, .ref (gf_ad E g)), (2, .ref (gf_ad E 41)), (3, .int (gf_i t)), (4, .int (gf_i x16)), (6, .int (gf_i 1))]) C dd_Ou_endOfTurns_96 rfl hx96 (by decide) rfl ?_
                refine gf_goto 31 C dd_Ou_endOfTurns_99 (by decide) ?_
                refine gf_lsub [0, 2, 3, 4, 5, 6] rfl ?_
                exact ih31_1 x96 m' (⟨by omega, by omega, by rw [hx96, show k + -1 + 1 = k by omega]; exact gf_tb_row htb (by rw [show (11 : Int) = s by omega]; exact htr), ef62⟩) (by omega)
              · skip
                refine gf_aload_n C dd_Ou_endOfTurns_69 1 rfl ?_
                refine gf_iload C dd_Ou_endOfTurns_70 6 rfl ?_
                refine gf_iload C dd_Ou_endOfTurns_72 0 rfl ?_
                refine gf_aload_n C dd_Ou_endOfTurns_74 1 rfl ?_
                refine gf_aload_n C dd_Ou_endOfTurns_75 2 rfl ?_
                refine gf_iload C dd_Ou_endOfTurns_76 6 rfl ?_
                refine gf_iload C dd_Ou_endOfTurns_78 0 rfl ?_
                refine gf_iload C dd_Ou_endOfTurns_80 5 rfl ?_
                refine gf_iload C dd_Ou_endOfTurns_82 7 rfl ?_
                refine gf_callVl (st := [.int (gf_i s), .int (gf_i k), .ref (gf_ad E 59)]) (As := [.ref (gf_ad E g), .int (gf_i k), .int (gf_i s), .int (gf_i x16), .int (gf_i 1)]) C wk_Ou_75 gf_cl1 (show gf_is 81 59 0 1 2 by decide) (ct_Ou_afterBestFigure (gf_xl X) E g m' hg hg58 hG62 k s x16 1 (by omega) (by omega) (by omega) hvb) rfl ⟨rfl, rfl, rfl, rfl⟩ (Nat.le_of_ble_eq_true rfl) rfl dd_Ou_endOfTurns_84 (fun r84 m84 hR84 hp84 => ?_)
                have hr84 := hp84.1
                refine gf_pm hp84.2 ?_
                refine gf_callVv (st := []) (As := [.int (gf_i k), .int (gf_i s), .long (gf_l r84)]) C wk_Ou_37 gf_cl1 (show gf_is 81 59 0 1 2 by decide) (ct_Ou_keepValue (gf_xl X) E k s r84 m' (by omega) (by omega) (by omega)) rfl ⟨rfl, rfl, rfl, rfl⟩ (Nat.le_of_ble_eq_true rfl) rfl dd_Ou_endOfTurns_87 (fun m87 hp87 => ?_)
                obtain ⟨x90, hx90⟩ : ∃ y : Int, y = s + 1 := ⟨_, rfl⟩
                refine gf_iinc (q := 0) (v := x90) (lv' := [(7, .int (gf_i x90)), (0, .ref (gf_ad E 59)), (1, .ref (gf_ad E g)), (2, .ref (gf_ad E 41)), (3, .int (gf_i t)), (4, .int (gf_i x16)), (5, .int (gf_i k)), (6, .int (gf_i 1))]) C dd_Ou_endOfTurns_90 rfl hx90 (by decide) rfl ?_
                refine gf_goto 62 C dd_Ou_endOfTurns_93 (by decide) ?_
                refine gf_lsub [0, 1, 2, 3, 4, 5, 6, 7] rfl ?_
                exact ih62_4 x90 m87 (by
                            have hbe : r84 = VV (x16 - k).toNat s := by
                              rw [hr84.1, ef62 g 0 (by omega), ef62 g 1 (by omega), ef62 g 2 (by omega), show (x16 - k).toNat = (x16 - 1 - k).toNat + 1 by omega, hVV]
                              show _ = pf_bst (if (x16 - 1 - ((x16 - 1 - k).toNat : Nat) - μ 41 1) % 2 = 0 then 1 else 0) (fun f => pf_dp _ _ (x16 - 1 - k).toNat (pf_fol _ _ _ s (x16 - 1 - ((x16 - 1 - k).toNat : Nat)) f x16)) 9
                              rw [show (x16 - 1 - ((x16 - 1 - k).toNat : Nat) : Int) = k by omega, ← hmuch]
                              refine pf_bst_congr 9 (fun f h0 h1 => ?_)
                              have hz := pf_fol_R (μ g 0) (μ g 1) (μ g 2) s k f x16
                              show m' 60 ((k + 1) * 11 + pf_fol (μ g 0) (μ g 1) (μ g 2) s k f x16) = _
                              rw [htb (k + 1) _ (by omega) (by omega) hz.1 hz.2, hVV, show (x16 - (k + 1)).toNat = (x16 - 1 - k).toNat by omega]
                              rfl
                            have hkp := gf_tb_keep (by omega) hp87 htb htr hbe
                            exact ⟨by omega, by omega, hkp.1, by rw [hx90]; exact hkp.2, fun x y h => by rw [hp87, gf_up_k h]; exact ef62 x y h⟩) (by omega)
          refine gf_lsub [0, 3, 4, 5, 6, 7, 2, 1] rfl ?_
          exact L62_4 _ 0 m (⟨by omega, by omega, hk2, fun y h0 h1 => by omega, hk3⟩) (Nat.lt_succ_self _)
  refine gf_lsub [0, 2, 3, 4, 5, 1] rfl ?_
  exact L31_1 _ x29 m22 (⟨by omega, by omega, fun j y h0 h1 h2 h3 => by rw [show j = x16 by omega, hp22a y h2 h3, show (x16 - x16).toNat = 0 by omega, hVV]; rfl, hp22b⟩) (Nat.lt_succ_self _)

theorem dd_Ou_overCopies_0 : decode cc_Ou_overCopies 0 = .ok (.aload_n 2, 1) := by decide +kernel
theorem dd_Ou_overCopies_1 : decode cc_Ou_overCopies 1 = .ok (.getfield 15, 3) := by decide +kernel
theorem dd_Ou_overCopies_4 : decode cc_Ou_overCopies 4 = .ok (.istore 4, 2) := by decide +kernel
theorem dd_Ou_overCopies_6 : decode cc_Ou_overCopies 6 = .ok (.iload 4, 2) := by decide +kernel
theorem dd_Ou_overCopies_8 : decode cc_Ou_overCopies 8 = .ok (.iconst 1, 1) := by decide +kernel
theorem dd_Ou_overCopies_9 : decode cc_Ou_overCopies 9 = .ok (.isub, 1) := by decide +kernel
theorem dd_Ou_overCopies_10 : decode cc_Ou_overCopies 10 = .ok (.istore 5, 2) := by decide +kernel
theorem dd_Ou_overCopies_12 : decode cc_Ou_overCopies 12 = .ok (.iload 5, 2) := by decide +kernel
theorem dd_Ou_overCopies_14 : decode cc_Ou_overCopies 14 = .ok (.ifCond .lt 109, 3) := by decide +kernel
theorem dd_Ou_overCopies_17 : decode cc_Ou_overCopies 17 = .ok (.aload_n 2, 1) := by decide +kernel
theorem dd_Ou_overCopies_18 : decode cc_Ou_overCopies 18 = .ok (.getfield 54, 3) := by decide +kernel
theorem dd_Ou_overCopies_21 : decode cc_Ou_overCopies 21 = .ok (.iload 5, 2) := by decide +kernel
theorem dd_Ou_overCopies_23 : decode cc_Ou_overCopies 23 = .ok (.iaload, 1) := by decide +kernel
theorem dd_Ou_overCopies_24 : decode cc_Ou_overCopies 24 = .ok (.istore 6, 2) := by decide +kernel
theorem dd_Ou_overCopies_26 : decode cc_Ou_overCopies 26 = .ok (.iload 6, 2) := by decide +kernel
theorem dd_Ou_overCopies_28 : decode cc_Ou_overCopies 28 = .ok (.iconst 1, 1) := by decide +kernel
theorem dd_Ou_overCopies_29 : decode cc_Ou_overCopies 29 = .ok (.iadd, 1) := by decide +kernel
theorem dd_Ou_overCopies_30 : decode cc_Ou_overCopies 30 = .ok (.bipush 10, 2) := by decide +kernel
theorem dd_Ou_overCopies_32 : decode cc_Ou_overCopies 32 = .ok (.irem, 1) := by decide +kernel
theorem dd_Ou_overCopies_33 : decode cc_Ou_overCopies 33 = .ok (.istore 7, 2) := by decide +kernel
theorem dd_Ou_overCopies_35 : decode cc_Ou_overCopies 35 = .ok (.iconst 0, 1) := by decide +kernel
theorem dd_Ou_overCopies_36 : decode cc_Ou_overCopies 36 = .ok (.istore 8, 2) := by decide +kernel
theorem dd_Ou_overCopies_38 : decode cc_Ou_overCopies 38 = .ok (.iload 8, 2) := by decide +kernel
theorem dd_Ou_overCopies_40 : decode cc_Ou_overCopies 40 = .ok (.bipush 11, 2) := by decide +kernel
theorem dd_Ou_overCopies_42 : decode cc_Ou_overCopies 42 = .ok (.if_icmp .ge 75, 3) := by decide +kernel
theorem dd_Ou_overCopies_45 : decode cc_Ou_overCopies 45 = .ok (.aload_n 0, 1) := by decide +kernel
theorem dd_Ou_overCopies_46 : decode cc_Ou_overCopies 46 = .ok (.iload 5, 2) := by decide +kernel
theorem dd_Ou_overCopies_48 : decode cc_Ou_overCopies 48 = .ok (.iconst 1, 1) := by decide +kernel
theorem dd_Ou_overCopies_49 : decode cc_Ou_overCopies 49 = .ok (.iadd, 1) := by decide +kernel
theorem dd_Ou_overCopies_50 : decode cc_Ou_overCopies 50 = .ok (.aload_n 1, 1) := by decide +kernel
theorem dd_Ou_overCopies_51 : decode cc_Ou_overCopies 51 = .ok (.iload 8, 2) := by decide +kernel
theorem dd_Ou_overCopies_53 : decode cc_Ou_overCopies 53 = .ok (.iload 5, 2) := by decide +kernel
theorem dd_Ou_overCopies_55 : decode cc_Ou_overCopies 55 = .ok (.iload 7, 2) := by decide +kernel
theorem dd_Ou_overCopies_57 : decode cc_Ou_overCopies 57 = .ok (.iload 4, 2) := by decide +kernel
theorem dd_Ou_overCopies_59 : decode cc_Ou_overCopies 59 = .ok (.invokevirtual 48, 3) := by decide +kernel
theorem dd_Ou_overCopies_62 : decode cc_Ou_overCopies 62 = .ok (.invokevirtual 44, 3) := by decide +kernel
theorem dd_Ou_overCopies_65 : decode cc_Ou_overCopies 65 = .ok (.lstore 9, 2) := by decide +kernel
theorem dd_Ou_overCopies_67 : decode cc_Ou_overCopies 67 = .ok (.aload_n 0, 1) := by decide +kernel
theorem dd_Ou_overCopies_68 : decode cc_Ou_overCopies 68 = .ok (.iload 5, 2) := by decide +kernel
theorem dd_Ou_overCopies_70 : decode cc_Ou_overCopies 70 = .ok (.iconst 1, 1) := by decide +kernel
theorem dd_Ou_overCopies_71 : decode cc_Ou_overCopies 71 = .ok (.iadd, 1) := by decide +kernel
theorem dd_Ou_overCopies_72 : decode cc_Ou_overCopies 72 = .ok (.aload_n 1, 1) := by decide +kernel
theorem dd_Ou_overCopies_73 : decode cc_Ou_overCopies 73 = .ok (.iload 8, 2) := by decide +kernel
theorem dd_Ou_overCopies_75 : decode cc_Ou_overCopies 75 = .ok (.iload 5, 2) := by decide +kernel
theorem dd_Ou_overCopies_77 : decode cc_Ou_overCopies 77 = .ok (.iload 6, 2) := by decide +kernel
theorem dd_Ou_overCopies_79 : decode cc_Ou_overCopies 79 = .ok (.iload 4, 2) := by decide +kernel
theorem dd_Ou_overCopies_81 : decode cc_Ou_overCopies 81 = .ok (.invokevirtual 48, 3) := by decide +kernel
theorem dd_Ou_overCopies_84 : decode cc_Ou_overCopies 84 = .ok (.invokevirtual 44, 3) := by decide +kernel
theorem dd_Ou_overCopies_87 : decode cc_Ou_overCopies 87 = .ok (.lstore 11, 2) := by decide +kernel
theorem dd_Ou_overCopies_89 : decode cc_Ou_overCopies 89 = .ok (.aload_n 0, 1) := by decide +kernel
theorem dd_Ou_overCopies_90 : decode cc_Ou_overCopies 90 = .ok (.iload 5, 2) := by decide +kernel
theorem dd_Ou_overCopies_92 : decode cc_Ou_overCopies 92 = .ok (.iload 8, 2) := by decide +kernel
theorem dd_Ou_overCopies_94 : decode cc_Ou_overCopies 94 = .ok (.iload_n 3, 1) := by decide +kernel
theorem dd_Ou_overCopies_95 : decode cc_Ou_overCopies 95 = .ok (.i2l, 1) := by decide +kernel
theorem dd_Ou_overCopies_96 : decode cc_Ou_overCopies 96 = .ok (.lload 9, 2) := by decide +kernel
theorem dd_Ou_overCopies_98 : decode cc_Ou_overCopies 98 = .ok (.lmul, 1) := by decide +kernel
theorem dd_Ou_overCopies_99 : decode cc_Ou_overCopies 99 = .ok (.bipush 12, 2) := by decide +kernel
theorem dd_Ou_overCopies_101 : decode cc_Ou_overCopies 101 = .ok (.iload_n 3, 1) := by decide +kernel
theorem dd_Ou_overCopies_102 : decode cc_Ou_overCopies 102 = .ok (.isub, 1) := by decide +kernel
theorem dd_Ou_overCopies_103 : decode cc_Ou_overCopies 103 = .ok (.i2l, 1) := by decide +kernel
theorem dd_Ou_overCopies_104 : decode cc_Ou_overCopies 104 = .ok (.lload 11, 2) := by decide +kernel
theorem dd_Ou_overCopies_106 : decode cc_Ou_overCopies 106 = .ok (.lmul, 1) := by decide +kernel
theorem dd_Ou_overCopies_107 : decode cc_Ou_overCopies 107 = .ok (.ladd, 1) := by decide +kernel
theorem dd_Ou_overCopies_108 : decode cc_Ou_overCopies 108 = .ok (.invokevirtual 37, 3) := by decide +kernel
theorem dd_Ou_overCopies_111 : decode cc_Ou_overCopies 111 = .ok (.iinc 8 1, 3) := by decide +kernel
theorem dd_Ou_overCopies_114 : decode cc_Ou_overCopies 114 = .ok (.goto (-76), 3) := by decide +kernel
theorem dd_Ou_overCopies_117 : decode cc_Ou_overCopies 117 = .ok (.iinc 5 (-1), 3) := by decide +kernel
theorem dd_Ou_overCopies_120 : decode cc_Ou_overCopies 120 = .ok (.goto (-108), 3) := by decide +kernel
theorem dd_Ou_overCopies_123 : decode cc_Ou_overCopies 123 = .ok (.aload_n 0, 1) := by decide +kernel
theorem dd_Ou_overCopies_124 : decode cc_Ou_overCopies 124 = .ok (.iconst 0, 1) := by decide +kernel
theorem dd_Ou_overCopies_125 : decode cc_Ou_overCopies 125 = .ok (.iconst 0, 1) := by decide +kernel
theorem dd_Ou_overCopies_126 : decode cc_Ou_overCopies 126 = .ok (.invokevirtual 44, 3) := by decide +kernel
theorem dd_Ou_overCopies_129 : decode cc_Ou_overCopies 129 = .ok (.lreturn, 1) := by decide +kernel
set_option maxRecDepth 100000 in
set_option maxHeartbeats 4000000 in
theorem ct_Ou_overCopies (l : Launch) (E : gf_E) (g : Int) (μ : gf_M) (hg : gf_oGd g) (hg58 : g ≤ 58) (hG : gf_okG μ g) (p : Int) (e : Int → Int) (hp : 0 ≤ p ∧ p ≤ 12) (he : ∀ s : Int, 0 ≤ s → s ≤ 10 → 0 ≤ e s ∧ e s ≤ 10) (hs : 0 ≤ μ 41 1 ∧ μ 41 1 ≤ 8) (hF : gf_okF μ 42 (μ 41 1)) (hrow : ∀ s : Int, 0 ≤ s → s ≤ 10 → μ 60 (μ 41 1 * 11 + s) = e s) : gf_Ml l E yy_Ou_overCopies cc_Ou_overCopies 13 (gf_rm 2 46) 81 gf_ref μ [.ref (gf_ad E 59), .ref (gf_ad E g), .ref (gf_ad E 41), .int (gf_i p)] (fun r μ' => (r = pf_VO (μ g 0) (μ g 1) (μ g 2) (μ 41 1) p (μ 42) e (μ 41 1).toNat 0 ∧ 0 ≤ r ∧ r ≤ 4299816960) ∧ ∀ x y : Int, x ≠ 60 → μ' x y = μ x y) := by
  refine gf_ml (by decide +kernel) (Nat.le_of_ble_eq_true rfl) (by decide) (fun X Q hlx C hQ => ?_)
  subst hlx
  replace C : gf_C X E cc_Ou_overCopies 13 "GuardFigures$Outlook" (gf_rm 2 46) := C
  show gf_G X E Q 13 gf_φ μ 0 [(0, .ref (gf_ad E 59)), (1, .ref (gf_ad E g)), (2, .ref (gf_ad E 41)), (3, .int (gf_i p))] []
  obtain ⟨VV, hVV⟩ : ∃ y, y = pf_VO (μ g 0) (μ g 1) (μ g 2) (μ 41 1) p (μ 42) e := ⟨_, rfl⟩
  have hVR : ∀ (r : Nat) (s : Int), r ≤ 8 → 0 ≤ s → s ≤ 10 → 0 ≤ VV r s ∧ VV r s ≤ 4299816960 := fun r s hr h0 h1 => by
    have h2 := pf_VO_R (K := μ g 0) (F := μ g 1) (S := μ g 2) (n := μ 41 1) (x := μ 42) hp he r s ⟨h0, h1⟩
    have h3 := pf_12_8 hr
    rw [hVV]; omega
  refine gf_aload_n C dd_Ou_overCopies_0 2 rfl ?_
  refine gf_getI (z := 1) C gf_cl5 fl_Ou_15 dd_Ou_overCopies_1 rfl rfl (show gf_is 81 41 0 5 5 by decide) (fun hv1 => ?_)
  refine gf_nm (fun x4 hx4 => ?_)
  refine gf_istore (lv' := [(4, .int (gf_i x4)), (0, .ref (gf_ad E 59)), (1, .ref (gf_ad E g)), (2, .ref (gf_ad E 41)), (3, .int (gf_i p))]) C dd_Ou_overCopies_4 (by decide) rfl ?_
  refine gf_iload C dd_Ou_overCopies_6 0 rfl ?_
  refine gf_iconst C dd_Ou_overCopies_8 ?_
  refine gf_isub C dd_Ou_overCopies_9 ?_
  refine gf_nm (fun x10 hx10 => ?_)
  refine gf_istore (lv' := [(5, .int (gf_i x10)), (4, .int (gf_i x4)), (0, .ref (gf_ad E 59)), (1, .ref (gf_ad E g)), (2, .ref (gf_ad E 41)), (3, .int (gf_i p))]) C dd_Ou_overCopies_10 (by decide) rfl ?_
  have L12_1 : ∀ (N : Nat) (k : Int) (m : gf_M) , (-1 ≤ k ∧ k < μ 41 1 ∧ gf_tb m (μ 41 1) VV (k + 1) ∧ ∀ x y : Int, x ≠ 60 → m x y = μ x y) → (k + 1).toNat < N → gf_G X E Q 13 gf_φ m 12 [(5, .int (gf_i k)), (0, .ref (gf_ad E 59)), (1, .ref (gf_ad E g)), (2, .ref (gf_ad E 41)), (3, .int (gf_i p)), (4, .int (gf_i x4))] [] := by
    intro N
    induction N with
    | zero => intro k m hinv hN; exact absurd hN (Nat.not_lt_zero _)
    | succ N ih12_1 =>
      intro k m hinv hN
      have hinv0 := hinv
      obtain ⟨hk0, hk1, hk2, hk3⟩ := hinv
      refine gf_iload C dd_Ou_overCopies_12 0 rfl ?_
      refine gf_if_lt 123 C dd_Ou_overCopies_14 (by decide) (by omega) (fun h14 => ?_) (fun h14 => ?_)
      · skip
        refine gf_aload_n C dd_Ou_overCopies_123 1 rfl ?_
        refine gf_iconst C dd_Ou_overCopies_124 ?_
        refine gf_iconst C dd_Ou_overCopies_125 ?_
        refine gf_callVl (st := []) (As := [.int (gf_i 0), .int (gf_i 0)]) C wk_Ou_44 gf_cl1 (show gf_is 81 59 0 1 2 by decide) (ct_Ou_valueOf (gf_xl X) E 0 0 m (by omega) (by omega)) rfl ⟨rfl, rfl, rfl, rfl⟩ (Nat.le_of_ble_eq_true rfl) rfl dd_Ou_overCopies_126 (fun r126 m126 hR126 hp126 => ?_)
        have hr126 := hp126.1
        refine gf_pm hp126.2 ?_
        refine gf_lret C hQ dd_Ou_overCopies_129 (by omega) ?_
        have hk1 : k = -1 := by omega
        have htb0 : gf_tb m (μ 41 1) VV 0 := by have := hk2; rw [hk1] at this; exact this
        have hve : r126 = VV (μ 41 1).toNat 0 := by rw [hr126, htb0 0 0 (by omega) (by omega) (by omega) (by omega), show μ 41 1 - 0 = μ 41 1 by omega]
        have hvr := hVR (μ 41 1).toNat 0 (by omega) (by omega) (by omega)
        exact ⟨⟨by rw [hve, hVV], by omega, by omega⟩, hk3⟩
      · skip
        refine gf_aload_n C dd_Ou_overCopies_17 3 rfl ?_
        refine gf_getA (r := 42) C gf_cl5 fl_Ou_54 dd_Ou_overCopies_18 rfl (show gf_is 81 41 0 5 5 by decide) (by decide) (by decide) ?_
        refine gf_iload C dd_Ou_overCopies_21 0 rfl ?_
        refine gf_iald C dd_Ou_overCopies_23 (show gf_is 81 42 1 0 8 by decide) (by omega) (fun hv23 => ?_)
        refine gf_nm (fun x24 hx24 => ?_)
        refine gf_istore (lv' := [(6, .int (gf_i x24)), (5, .int (gf_i k)), (0, .ref (gf_ad E 59)), (1, .ref (gf_ad E g)), (2, .ref (gf_ad E 41)), (3, .int (gf_i p)), (4, .int (gf_i x4))]) C dd_Ou_overCopies_24 (by decide) rfl ?_
        have hfk := hF k (by omega) (by omega)
        rw [← hk3 42 k (by decide), ← hx24] at hfk
        refine gf_iload C dd_Ou_overCopies_26 0 rfl ?_
        refine gf_iconst C dd_Ou_overCopies_28 ?_
        refine gf_iadd C dd_Ou_overCopies_29 ?_
        refine gf_bipush C dd_Ou_overCopies_30 (by decide +kernel) ?_
        refine gf_irem C dd_Ou_overCopies_32 (by omega) ?_
        refine gf_nm (fun x33 hx33 => ?_)
        refine gf_istore (lv' := [(7, .int (gf_i x33)), (6, .int (gf_i x24)), (5, .int (gf_i k)), (0, .ref (gf_ad E 59)), (1, .ref (gf_ad E g)), (2, .ref (gf_ad E 41)), (3, .int (gf_i p)), (4, .int (gf_i x4))]) C dd_Ou_overCopies_33 (by decide) rfl ?_
        refine gf_iconst C dd_Ou_overCopies_35 ?_
        refine gf_istore (lv' := [(8, .int (gf_i 0)), (7, .int (gf_i x33)), (6, .int (gf_i x24)), (5, .int (gf_i k)), (0, .ref (gf_ad E 59)), (1, .ref (gf_ad E g)), (2, .ref (gf_ad E 41)), (3, .int (gf_i p)), (4, .int (gf_i x4))]) C dd_Ou_overCopies_36 (by decide) rfl ?_
        have L38_2 : ∀ (N : Nat) (s : Int) (m' : gf_M) , (0 ≤ s ∧ s ≤ 11 ∧ gf_tb m' (μ 41 1) VV (k + 1) ∧ gf_tr m' (μ 41 1) VV k s ∧ ∀ x y : Int, x ≠ 60 → m' x y = μ x y) → (11 - s).toNat < N → gf_G X E Q 13 gf_φ m' 38 [(8, .int (gf_i s)), (0, .ref (gf_ad E 59)), (1, .ref (gf_ad E g)), (2, .ref (gf_ad E 41)), (3, .int (gf_i p)), (4, .int (gf_i x4)), (5, .int (gf_i k)), (6, .int (gf_i x24)), (7, .int (gf_i x33))] [] := by
          intro N
          induction N with
          | zero => intro s m' hinv hN; exact absurd hN (Nat.not_lt_zero _)
          | succ N ih38_2 =>
            intro s m' hinv hN
            have hinv0 := hinv
            obtain ⟨hs0, hs1, htb, htr, ef38⟩ := hinv
            have hG38 : gf_okG m' g := by unfold gf_okG; rw [ef38 g 0 (by omega), ef38 g 1 (by omega), ef38 g 2 (by omega)]; exact hG
            have hvb : ∀ y : Int, 0 ≤ y → y ≤ 10 → m' 60 ((k + 1) * 11 + y) = VV (μ 41 1 - 1 - k).toNat y := fun y h0 h1 => by rw [htb (k + 1) y (by omega) (by omega) h0 h1, show (μ 41 1 - (k + 1)).toNat = (μ 41 1 - 1 - k).toNat by omega]
            refine gf_iload C dd_Ou_overCopies_38 0 rfl ?_
            refine gf_bipush C dd_Ou_overCopies_40 (by decide +kernel) ?_
            refine gf_icmp_ge 117 C dd_Ou_overCopies_42 (by decide) (by omega) (by omega) (fun h42 => ?_) (fun h42 => ?_)
            · skip
              obtain ⟨x117, hx117⟩ : ∃ y : Int, y = k + (-1) := ⟨_, rfl⟩
              refine gf_iinc (q := 6) (v := x117) (lv' := [(5, .int (gf_i x117)), (8, .int (gf_i s)), (0, .ref (gf_ad E 59)), (1, .ref (gf_ad E g)), (2, .ref (gf_ad E 41)), (3, .int (gf_i p)), (4, .int (gf_i x4)), (6, .int (gf_i x24)), (7, .int (gf_i x33))]) C dd_Ou_overCopies_117 rfl hx117 (by decide) rfl ?_
              refine gf_goto 12 C dd_Ou_overCopies_120 (by decide) ?_
              refine gf_lsub [0, 2, 3, 4, 5, 6] rfl ?_
              exact ih12_1 x117 m' (⟨by omega, by omega, by rw [hx117, show k + -1 + 1 = k by omega]; exact gf_tb_row htb (by rw [show (11 : Int) = s by omega]; exact htr), ef38⟩) (by omega)
            · skip
              refine gf_aload_n C dd_Ou_overCopies_45 1 rfl ?_
              refine gf_iload C dd_Ou_overCopies_46 6 rfl ?_
              refine gf_iconst C dd_Ou_overCopies_48 ?_
              refine gf_iadd C dd_Ou_overCopies_49 ?_
              refine gf_aload_n C dd_Ou_overCopies_50 2 rfl ?_
              refine gf_iload C dd_Ou_overCopies_51 0 rfl ?_
              refine gf_iload C dd_Ou_overCopies_53 6 rfl ?_
              refine gf_iload C dd_Ou_overCopies_55 8 rfl ?_
              refine gf_iload C dd_Ou_overCopies_57 5 rfl ?_
              refine gf_callVi (st := [.int (gf_i (k + 1)), .ref (gf_ad E 59)]) (As := [.int (gf_i s), .int (gf_i k), .int (gf_i x33), .int (gf_i x4)]) C wk_Ou_48 gf_cl0 hg (ct_Gd_follow (gf_xl X) E g s k x33 x4 m' hg (hG38) (by omega) (by omega) (by omega)) rfl ⟨rfl, rfl, rfl, rfl⟩ (Nat.le_of_ble_eq_true rfl) rfl dd_Ou_overCopies_59 (fun r59 m59 hR59 hp59 => ?_)
              have hr59 := hp59.1
              refine gf_pm hp59.2 ?_
              refine gf_callVl (st := []) (As := [.int (gf_i (k + 1)), .int (gf_i r59)]) C wk_Ou_44 gf_cl1 (show gf_is 81 59 0 1 2 by decide) (ct_Ou_valueOf (gf_xl X) E (k + 1) r59 m' (by omega) (by omega)) rfl ⟨rfl, rfl, rfl, rfl⟩ (Nat.le_of_ble_eq_true rfl) rfl dd_Ou_overCopies_62 (fun r62 m62 hR62 hp62 => ?_)
              have hr62 := hp62.1
              refine gf_pm hp62.2 ?_
              refine gf_lstore (lv' := [(9, .long (gf_l r62)), (8, .int (gf_i s)), (0, .ref (gf_ad E 59)), (1, .ref (gf_ad E g)), (2, .ref (gf_ad E 41)), (3, .int (gf_i p)), (4, .int (gf_i x4)), (5, .int (gf_i k)), (6, .int (gf_i x24)), (7, .int (gf_i x33))]) C dd_Ou_overCopies_65 (by decide) rfl ?_
              refine gf_aload_n C dd_Ou_overCopies_67 2 rfl ?_
              refine gf_iload C dd_Ou_overCopies_68 7 rfl ?_
              refine gf_iconst C dd_Ou_overCopies_70 ?_
              refine gf_iadd C dd_Ou_overCopies_71 ?_
              refine gf_aload_n C dd_Ou_overCopies_72 3 rfl ?_
              refine gf_iload C dd_Ou_overCopies_73 1 rfl ?_
              refine gf_iload C dd_Ou_overCopies_75 7 rfl ?_
              refine gf_iload C dd_Ou_overCopies_77 8 rfl ?_
              refine gf_iload C dd_Ou_overCopies_79 6 rfl ?_
              refine gf_callVi (st := [.int (gf_i (k + 1)), .ref (gf_ad E 59)]) (As := [.int (gf_i s), .int (gf_i k), .int (gf_i x24), .int (gf_i x4)]) C wk_Ou_48 gf_cl0 hg (ct_Gd_follow (gf_xl X) E g s k x24 x4 m' hg (hG38) (by omega) (by omega) (by omega)) rfl ⟨rfl, rfl, rfl, rfl⟩ (Nat.le_of_ble_eq_true rfl) rfl dd_Ou_overCopies_81 (fun r81 m81 hR81 hp81 => ?_)
              have hr81 := hp81.1
              refine gf_pm hp81.2 ?_
              refine gf_callVl (st := []) (As := [.int (gf_i (k + 1)), .int (gf_i r81)]) C wk_Ou_44 gf_cl1 (show gf_is 81 59 0 1 2 by decide) (ct_Ou_valueOf (gf_xl X) E (k + 1) r81 m' (by omega) (by omega)) rfl ⟨rfl, rfl, rfl, rfl⟩ (Nat.le_of_ble_eq_true rfl) rfl dd_Ou_overCopies_84 (fun r84 m84 hR84 hp84 => ?_)
              have hr84 := hp84.1
              refine gf_pm hp84.2 ?_
              refine gf_lstore (lv' := [(11, .long (gf_l r84)), (9, .long (gf_l r62)), (8, .int (gf_i s)), (0, .ref (gf_ad E 59)), (1, .ref (gf_ad E g)), (2, .ref (gf_ad E 41)), (3, .int (gf_i p)), (4, .int (gf_i x4)), (5, .int (gf_i k)), (6, .int (gf_i x24)), (7, .int (gf_i x33))]) C dd_Ou_overCopies_87 (by decide) rfl ?_
              have hva : r62 = VV (μ 41 1 - 1 - k).toNat r59 := by rw [hr62]; exact hvb r59 (by omega) (by omega)
              have hvc : r84 = VV (μ 41 1 - 1 - k).toNat r81 := by rw [hr84]; exact hvb r81 (by omega) (by omega)
              have hra := hVR (μ 41 1 - 1 - k).toNat r59 (by omega) (by omega) (by omega)
              have hrb := hVR (μ 41 1 - 1 - k).toNat r81 (by omega) (by omega) (by omega)
              rw [← hva] at hra
              rw [← hvc] at hrb
              refine gf_aload_n C dd_Ou_overCopies_89 3 rfl ?_
              refine gf_iload C dd_Ou_overCopies_90 8 rfl ?_
              refine gf_iload C dd_Ou_overCopies_92 2 rfl ?_
              refine gf_iload_n C dd_Ou_overCopies_94 6 rfl ?_
              refine gf_gi2l C dd_Ou_overCopies_95 (by omega) ?_
              refine gf_lload C dd_Ou_overCopies_96 1 rfl ?_
              refine gf_lmul C dd_Ou_overCopies_98 ?_
              refine gf_bipush C dd_Ou_overCopies_99 (by decide +kernel) ?_
              refine gf_iload_n C dd_Ou_overCopies_101 6 rfl ?_
              refine gf_isub C dd_Ou_overCopies_102 ?_
              refine gf_gi2l C dd_Ou_overCopies_103 (by omega) ?_
              refine gf_lload C dd_Ou_overCopies_104 0 rfl ?_
              refine gf_lmul C dd_Ou_overCopies_106 ?_
              refine gf_ladd C dd_Ou_overCopies_107 ?_
              have hbe : p * r62 + (12 - p) * r84 = VV (μ 41 1 - k).toNat s := by
                have g59 := hr59.1
                have g81 := hr81.1
                rw [ef38 g 0 (by omega), ef38 g 1 (by omega), ef38 g 2 (by omega), hx4] at g59 g81
                rw [hva, hvc, g59, g81, show (μ 41 1 - k).toNat = (μ 41 1 - 1 - k).toNat + 1 by omega, hVV]
                show _ = p * pf_dp _ _ (μ 41 1 - 1 - k).toNat (pf_fol _ _ _ s (μ 41 1 - 1 - ((μ 41 1 - 1 - k).toNat : Nat)) ((μ 42 (μ 41 1 - 1 - ((μ 41 1 - 1 - k).toNat : Nat)) + 1) % 10) _) + (12 - p) * pf_dp _ _ (μ 41 1 - 1 - k).toNat (pf_fol _ _ _ s (μ 41 1 - 1 - ((μ 41 1 - 1 - k).toNat : Nat)) (μ 42 (μ 41 1 - 1 - ((μ 41 1 - 1 - k).toNat : Nat))) _)
                rw [show (μ 41 1 - 1 - ((μ 41 1 - 1 - k).toNat : Nat) : Int) = k by omega, hx33, hx24, hk3 42 k (by decide)]
                rfl
              have hbr := hVR (μ 41 1 - k).toNat s (by omega) (by omega) (by omega)
              rw [← hbe] at hbr
              refine gf_callVv (st := []) (As := [.int (gf_i k), .int (gf_i s), .long (gf_l ((p * r62) + ((12 - p) * r84)))]) C wk_Ou_37 gf_cl1 (show gf_is 81 59 0 1 2 by decide) (ct_Ou_keepValue (gf_xl X) E k s ((p * r62) + ((12 - p) * r84)) m' (by omega) (by omega) (by omega)) rfl ⟨rfl, rfl, rfl, rfl⟩ (Nat.le_of_ble_eq_true rfl) rfl dd_Ou_overCopies_108 (fun m108 hp108 => ?_)
              obtain ⟨x111, hx111⟩ : ∃ y : Int, y = s + 1 := ⟨_, rfl⟩
              refine gf_iinc (q := 2) (v := x111) (lv' := [(8, .int (gf_i x111)), (11, .long (gf_l r84)), (9, .long (gf_l r62)), (0, .ref (gf_ad E 59)), (1, .ref (gf_ad E g)), (2, .ref (gf_ad E 41)), (3, .int (gf_i p)), (4, .int (gf_i x4)), (5, .int (gf_i k)), (6, .int (gf_i x24)), (7, .int (gf_i x33))]) C dd_Ou_overCopies_111 rfl hx111 (by decide) rfl ?_
              refine gf_goto 38 C dd_Ou_overCopies_114 (by decide) ?_
              refine gf_lsub [0, 3, 4, 5, 6, 7, 8, 9, 10] rfl ?_
              exact ih38_2 x111 m108 (by
                          have hkp := gf_tb_keep (by omega) hp108 htb htr hbe
                          exact ⟨by omega, by omega, hkp.1, by rw [hx111]; exact hkp.2, fun x y h => by rw [hp108, gf_up_k h]; exact ef38 x y h⟩) (by omega)
        refine gf_lsub [0, 4, 5, 6, 7, 8, 3, 2, 1] rfl ?_
        exact L38_2 _ 0 m (⟨by omega, by omega, hk2, fun y h0 h1 => by omega, hk3⟩) (Nat.lt_succ_self _)
  refine gf_lsub [0, 2, 3, 4, 5, 1] rfl ?_
  exact L12_1 _ x10 μ (⟨by omega, by omega, fun j y h0 h1 h2 h3 => by rw [show j = μ 41 1 by omega, hrow y h2 h3, show (μ 41 1 - μ 41 1).toNat = 0 by omega, hVV]; rfl, fun x y _ => rfl⟩) (Nat.lt_succ_self _)

theorem dd_Ou_copiesReckonedAlike_0 : decode cc_Ou_copiesReckonedAlike 0 = .ok (.aload_n 0, 1) := by decide +kernel
theorem dd_Ou_copiesReckonedAlike_1 : decode cc_Ou_copiesReckonedAlike 1 = .ok (.aload_n 1, 1) := by decide +kernel
theorem dd_Ou_copiesReckonedAlike_2 : decode cc_Ou_copiesReckonedAlike 2 = .ok (.aload_n 2, 1) := by decide +kernel
theorem dd_Ou_copiesReckonedAlike_3 : decode cc_Ou_copiesReckonedAlike 3 = .ok (.getfield 15, 3) := by decide +kernel
theorem dd_Ou_copiesReckonedAlike_6 : decode cc_Ou_copiesReckonedAlike 6 = .ok (.aload_n 1, 1) := by decide +kernel
theorem dd_Ou_copiesReckonedAlike_7 : decode cc_Ou_copiesReckonedAlike 7 = .ok (.aload_n 2, 1) := by decide +kernel
theorem dd_Ou_copiesReckonedAlike_8 : decode cc_Ou_copiesReckonedAlike 8 = .ok (.getfield 54, 3) := by decide +kernel
theorem dd_Ou_copiesReckonedAlike_11 : decode cc_Ou_copiesReckonedAlike 11 = .ok (.aload_n 2, 1) := by decide +kernel
theorem dd_Ou_copiesReckonedAlike_12 : decode cc_Ou_copiesReckonedAlike 12 = .ok (.getfield 15, 3) := by decide +kernel
theorem dd_Ou_copiesReckonedAlike_15 : decode cc_Ou_copiesReckonedAlike 15 = .ok (.invokevirtual 82, 3) := by decide +kernel
theorem dd_Ou_copiesReckonedAlike_18 : decode cc_Ou_copiesReckonedAlike 18 = .ok (.iconst 1, 1) := by decide +kernel
theorem dd_Ou_copiesReckonedAlike_19 : decode cc_Ou_copiesReckonedAlike 19 = .ok (.iconst 0, 1) := by decide +kernel
theorem dd_Ou_copiesReckonedAlike_20 : decode cc_Ou_copiesReckonedAlike 20 = .ok (.invokevirtual 21, 3) := by decide +kernel
theorem dd_Ou_copiesReckonedAlike_23 : decode cc_Ou_copiesReckonedAlike 23 = .ok (.aload_n 0, 1) := by decide +kernel
theorem dd_Ou_copiesReckonedAlike_24 : decode cc_Ou_copiesReckonedAlike 24 = .ok (.aload_n 1, 1) := by decide +kernel
theorem dd_Ou_copiesReckonedAlike_25 : decode cc_Ou_copiesReckonedAlike 25 = .ok (.aload_n 2, 1) := by decide +kernel
theorem dd_Ou_copiesReckonedAlike_26 : decode cc_Ou_copiesReckonedAlike 26 = .ok (.iload_n 3, 1) := by decide +kernel
theorem dd_Ou_copiesReckonedAlike_27 : decode cc_Ou_copiesReckonedAlike 27 = .ok (.invokevirtual 86, 3) := by decide +kernel
theorem dd_Ou_copiesReckonedAlike_30 : decode cc_Ou_copiesReckonedAlike 30 = .ok (.lreturn, 1) := by decide +kernel
set_option maxRecDepth 100000 in
set_option maxHeartbeats 4000000 in
theorem ct_Ou_copiesReckonedAlike (l : Launch) (E : gf_E) (g : Int) (μ : gf_M) (hg : gf_oGd g) (hg58 : g ≤ 58) (hG : gf_okG μ g) (p : Int) (hp : 0 ≤ p ∧ p ≤ 12) (hs : 0 ≤ μ 41 1 ∧ μ 41 1 ≤ 8) (hF : gf_okF μ 42 (μ 41 1)) : gf_Ml l E yy_Ou_copiesReckonedAlike cc_Ou_copiesReckonedAlike 4 (gf_rm 3 78) 81 gf_ref μ [.ref (gf_ad E 59), .ref (gf_ad E g), .ref (gf_ad E 41), .int (gf_i p)] (fun r μ' => (r = pf_VO (μ g 0) (μ g 1) (μ g 2) (μ 41 1) p (μ 42) (pf_eC (μ g 0) (μ 41 1) (pf_reck (μ g 0) (μ g 1) (μ g 2) (μ 42) (μ 41 1)) 1 0) (μ 41 1).toNat 0 ∧ 0 ≤ r ∧ r ≤ 4299816960) ∧ ∀ x y : Int, x ≠ 60 → μ' x y = μ x y) := by
  refine gf_ml (by decide +kernel) (Nat.le_of_ble_eq_true rfl) (by decide) (fun X Q hlx C hQ => ?_)
  subst hlx
  replace C : gf_C X E cc_Ou_copiesReckonedAlike 4 "GuardFigures$Outlook" (gf_rm 3 78) := C
  show gf_G X E Q 4 gf_φ μ 0 [(0, .ref (gf_ad E 59)), (1, .ref (gf_ad E g)), (2, .ref (gf_ad E 41)), (3, .int (gf_i p))] []
  refine gf_aload_n C dd_Ou_copiesReckonedAlike_0 0 rfl ?_
  refine gf_aload_n C dd_Ou_copiesReckonedAlike_1 1 rfl ?_
  refine gf_aload_n C dd_Ou_copiesReckonedAlike_2 2 rfl ?_
  refine gf_getI (z := 1) C gf_cl5 fl_Ou_15 dd_Ou_copiesReckonedAlike_3 rfl rfl (show gf_is 81 41 0 5 5 by decide) (fun hv3 => ?_)
  refine gf_aload_n C dd_Ou_copiesReckonedAlike_6 1 rfl ?_
  refine gf_aload_n C dd_Ou_copiesReckonedAlike_7 2 rfl ?_
  refine gf_getA (r := 42) C gf_cl5 fl_Ou_54 dd_Ou_copiesReckonedAlike_8 rfl (show gf_is 81 41 0 5 5 by decide) (by decide) (by decide) ?_
  refine gf_aload_n C dd_Ou_copiesReckonedAlike_11 2 rfl ?_
  refine gf_getI (z := 1) C gf_cl5 fl_Ou_15 dd_Ou_copiesReckonedAlike_12 rfl rfl (show gf_is 81 41 0 5 5 by decide) (fun hv12 => ?_)
  skip
  refine gf_callVi (st := [.int (gf_i (μ 41 1)), .ref (gf_ad E g), .ref (gf_ad E 59)]) (As := [.ref (gf_ad E 42), .int (gf_i (μ 41 1))]) C wk_Ou_82 gf_cl0 hg (ct_Gd_reckon (gf_xl X) E g 42 (μ 41 1) 8 μ hg (hG) ((show gf_is 81 42 1 0 8 by decide)) (by omega) (hF)) rfl ⟨rfl, rfl, rfl, rfl⟩ (Nat.le_of_ble_eq_true rfl) rfl dd_Ou_copiesReckonedAlike_15 (fun r15 m15 hR15 hp15 => ?_)
  have hr15 := hp15.1
  refine gf_pm hp15.2 ?_
  refine gf_iconst C dd_Ou_copiesReckonedAlike_18 ?_
  refine gf_iconst C dd_Ou_copiesReckonedAlike_19 ?_
  refine gf_callVv (st := []) (As := [.ref (gf_ad E g), .int (gf_i (μ 41 1)), .int (gf_i r15), .int (gf_i 1), .int (gf_i 0)]) C wk_Ou_21 gf_cl1 (show gf_is 81 59 0 1 2 by decide) (ct_Ou_endWithCheck (gf_xl X) E g μ hg hg58 hG (μ 41 1) r15 1 0 (by omega) (by omega) (by decide) (by decide)) rfl ⟨rfl, rfl, rfl, rfl⟩ (Nat.le_of_ble_eq_true rfl) rfl dd_Ou_copiesReckonedAlike_20 (fun m20 hp20 => ?_)
  obtain ⟨hp20a, hp20b⟩ := hp20
  have e41 : m20 41 1 = μ 41 1 := hp20b 41 1 (by decide)
  have hG20 : gf_okG m20 g := by unfold gf_okG; rw [hp20b g 0 (by omega), hp20b g 1 (by omega), hp20b g 2 (by omega)]; exact hG
  refine gf_aload_n C dd_Ou_copiesReckonedAlike_23 0 rfl ?_
  refine gf_aload_n C dd_Ou_copiesReckonedAlike_24 1 rfl ?_
  refine gf_aload_n C dd_Ou_copiesReckonedAlike_25 2 rfl ?_
  refine gf_iload_n C dd_Ou_copiesReckonedAlike_26 3 rfl ?_
  refine gf_callVl (st := []) (As := [.ref (gf_ad E g), .ref (gf_ad E 41), .int (gf_i p)]) C wk_Ou_86 gf_cl1 (show gf_is 81 59 0 1 2 by decide) (ct_Ou_overCopies (gf_xl X) E g m20 hg hg58 hG20 p (pf_eC (μ g 0) (μ 41 1) (pf_reck (μ g 0) (μ g 1) (μ g 2) (μ 42) (μ 41 1)) 1 0) hp (fun s _ _ => by unfold pf_eC; split <;> omega) (by rw [e41]; exact hs) (by rw [e41]; intro j h0 h1; rw [hp20b 42 j (by decide)]; exact hF j h0 h1) (fun s h0 h1 => by rw [e41, hp20a s h0 h1, hr15.1])) rfl ⟨rfl, rfl, rfl, rfl⟩ (Nat.le_of_ble_eq_true rfl) rfl dd_Ou_copiesReckonedAlike_27 (fun r27 m27 hR27 hp27 => ?_)
  obtain ⟨hp27a, hp27b⟩ := hp27
  refine gf_lret C hQ dd_Ou_copiesReckonedAlike_30 (by omega) ?_
  refine ⟨⟨?_, by omega, by omega⟩, fun x y h => by rw [hp27b x y h]; exact hp20b x y h⟩
  rw [hp27a.1, e41, hp20b g 0 (by omega), hp20b g 1 (by omega), hp20b g 2 (by omega), show m20 42 = μ 42 from funext fun y => hp20b 42 y (by decide)]

theorem dd_Ou_reckonedOverCopies_0 : decode cc_Ou_reckonedOverCopies 0 = .ok (.aload_n 0, 1) := by decide +kernel
theorem dd_Ou_reckonedOverCopies_1 : decode cc_Ou_reckonedOverCopies 1 = .ok (.aload_n 1, 1) := by decide +kernel
theorem dd_Ou_reckonedOverCopies_2 : decode cc_Ou_reckonedOverCopies 2 = .ok (.aload_n 2, 1) := by decide +kernel
theorem dd_Ou_reckonedOverCopies_3 : decode cc_Ou_reckonedOverCopies 3 = .ok (.getfield 15, 3) := by decide +kernel
theorem dd_Ou_reckonedOverCopies_6 : decode cc_Ou_reckonedOverCopies 6 = .ok (.invokevirtual 71, 3) := by decide +kernel
theorem dd_Ou_reckonedOverCopies_9 : decode cc_Ou_reckonedOverCopies 9 = .ok (.aload_n 0, 1) := by decide +kernel
theorem dd_Ou_reckonedOverCopies_10 : decode cc_Ou_reckonedOverCopies 10 = .ok (.aload_n 1, 1) := by decide +kernel
theorem dd_Ou_reckonedOverCopies_11 : decode cc_Ou_reckonedOverCopies 11 = .ok (.aload_n 2, 1) := by decide +kernel
theorem dd_Ou_reckonedOverCopies_12 : decode cc_Ou_reckonedOverCopies 12 = .ok (.iload_n 3, 1) := by decide +kernel
theorem dd_Ou_reckonedOverCopies_13 : decode cc_Ou_reckonedOverCopies 13 = .ok (.invokevirtual 86, 3) := by decide +kernel
theorem dd_Ou_reckonedOverCopies_16 : decode cc_Ou_reckonedOverCopies 16 = .ok (.lreturn, 1) := by decide +kernel
set_option maxRecDepth 100000 in
set_option maxHeartbeats 4000000 in
theorem ct_Ou_reckonedOverCopies (l : Launch) (E : gf_E) (g : Int) (μ : gf_M) (hg : gf_oGd g) (hg58 : g ≤ 58) (hG : gf_okG μ g) (p : Int) (hp : 0 ≤ p ∧ p ≤ 12) (hs : 0 ≤ μ 41 1 ∧ μ 41 1 ≤ 8) (hF : gf_okF μ 42 (μ 41 1)) : gf_Ml l E yy_Ou_reckonedOverCopies cc_Ou_reckonedOverCopies 4 (gf_rm 3 78) 81 gf_ref μ [.ref (gf_ad E 59), .ref (gf_ad E g), .ref (gf_ad E 41), .int (gf_i p)] (fun r μ' => (r = pf_VO (μ g 0) (μ g 1) (μ g 2) (μ 41 1) p (μ 42) (fun s => pf_fin (μ g 0) s (μ 41 1)) (μ 41 1).toNat 0 ∧ 0 ≤ r ∧ r ≤ 4299816960) ∧ ∀ x y : Int, x ≠ 60 → μ' x y = μ x y) := by
  refine gf_ml (by decide +kernel) (Nat.le_of_ble_eq_true rfl) (by decide) (fun X Q hlx C hQ => ?_)
  subst hlx
  replace C : gf_C X E cc_Ou_reckonedOverCopies 4 "GuardFigures$Outlook" (gf_rm 3 78) := C
  show gf_G X E Q 4 gf_φ μ 0 [(0, .ref (gf_ad E 59)), (1, .ref (gf_ad E g)), (2, .ref (gf_ad E 41)), (3, .int (gf_i p))] []
  refine gf_aload_n C dd_Ou_reckonedOverCopies_0 0 rfl ?_
  refine gf_aload_n C dd_Ou_reckonedOverCopies_1 1 rfl ?_
  refine gf_aload_n C dd_Ou_reckonedOverCopies_2 2 rfl ?_
  refine gf_getI (z := 1) C gf_cl5 fl_Ou_15 dd_Ou_reckonedOverCopies_3 rfl rfl (show gf_is 81 41 0 5 5 by decide) (fun hv3 => ?_)
  refine gf_callVv (st := []) (As := [.ref (gf_ad E g), .int (gf_i (μ 41 1))]) C wk_Ou_71 gf_cl1 (show gf_is 81 59 0 1 2 by decide) (ct_Ou_endWithReckoned (gf_xl X) E g μ hg hg58 hG (μ 41 1) (by omega)) rfl ⟨rfl, rfl, rfl, rfl⟩ (Nat.le_of_ble_eq_true rfl) rfl dd_Ou_reckonedOverCopies_6 (fun m6 hp6 => ?_)
  obtain ⟨hp6a, hp6b⟩ := hp6
  have e41 : m6 41 1 = μ 41 1 := hp6b 41 1 (by decide)
  have hG6 : gf_okG m6 g := by unfold gf_okG; rw [hp6b g 0 (by omega), hp6b g 1 (by omega), hp6b g 2 (by omega)]; exact hG
  refine gf_aload_n C dd_Ou_reckonedOverCopies_9 0 rfl ?_
  refine gf_aload_n C dd_Ou_reckonedOverCopies_10 1 rfl ?_
  refine gf_aload_n C dd_Ou_reckonedOverCopies_11 2 rfl ?_
  refine gf_iload_n C dd_Ou_reckonedOverCopies_12 3 rfl ?_
  refine gf_callVl (st := []) (As := [.ref (gf_ad E g), .ref (gf_ad E 41), .int (gf_i p)]) C wk_Ou_86 gf_cl1 (show gf_is 81 59 0 1 2 by decide) (ct_Ou_overCopies (gf_xl X) E g m6 hg hg58 hG6 p (fun s => pf_fin (μ g 0) s (μ 41 1)) hp (fun s h0 h1 => pf_fin_R ⟨h0, h1⟩) (by rw [e41]; exact hs) (by rw [e41]; intro j h0 h1; rw [hp6b 42 j (by decide)]; exact hF j h0 h1) (fun s h0 h1 => by rw [e41, hp6a s h0 h1])) rfl ⟨rfl, rfl, rfl, rfl⟩ (Nat.le_of_ble_eq_true rfl) rfl dd_Ou_reckonedOverCopies_13 (fun r13 m13 hR13 hp13 => ?_)
  obtain ⟨hp13a, hp13b⟩ := hp13
  refine gf_lret C hQ dd_Ou_reckonedOverCopies_16 (by omega) ?_
  refine ⟨⟨?_, by omega, by omega⟩, fun x y h => by rw [hp13b x y h]; exact hp6b x y h⟩
  rw [hp13a.1, e41, hp6b g 0 (by omega), hp6b g 1 (by omega), hp6b g 2 (by omega), show m6 42 = μ 42 from funext fun y => hp6b 42 y (by decide)]
