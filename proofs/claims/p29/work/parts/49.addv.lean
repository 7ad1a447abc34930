section
variable {mm : q_Mem} {w : Nat} {kk dd ff : Int32}
theorem mk_19 : sp_make (up2 mm 19 0 0) w kk dd ff = up2 (sp_make mm w kk dd ff) 19 0 0 := by
  have r : ∀ k, k ≠ 19 → up2 mm 19 0 0 k = mm k := fun k h => up2_k h
  have eK : sp_K (up2 mm 19 0 0) = sp_K mm := rfl
  have eL : sp_L (up2 mm 19 0 0) w = sp_L mm w := rfl
  unfold sp_make
  rw [eK, eL, r 7 (by decide), r 8 (by decide), r 10 (by decide), r 21 (by decide), up2_comm (show (19 : Nat) ≠ 11 by decide), up2_comm (show (19 : Nat) ≠ 12 by decide), up2_comm (show (19 : Nat) ≠ 8 by decide), up2_comm (show (19 : Nat) ≠ 7 by decide), up2_comm (show (19 : Nat) ≠ 9 by decide), up2_comm (show (19 : Nat) ≠ 10 by decide), up2_comm (show (19 : Nat) ≠ 21 by decide)]
/-- a version's number, by its parts -/
theorem mk_co {k d e : Nat} {v : Int32} (hw : w < 40) (hk : k < 4) (hd : d < 3) (he : e < 7) (hv : v = nI e - 1) : 1000 * nI w + 100 * nI k + 10 * nI d + v + 1 = nI (1000 * w + 100 * k + 10 * d + e) := by
  rw [hv, show (1000 : Int32) = nI 1000 from rfl, show (100 : Int32) = nI 100 from rfl, show (10 : Int32) = nI 10 from rfl, pk_mul, pk_mul, pk_mul, nI_add, nI_add, Int32.add_assoc, Int32.sub_add_cancel, nI_add]
theorem mk_parts {k d e : Nat} {v : Int32} (hw : w < 40) (hk : k < 4) (hd : d < 3) (he : e < 7) (hv : v = nI e - 1) : sp_vk (1000 * nI w + 100 * nI k + 10 * nI d + v + 1) = nI k ∧ sp_vd (1000 * nI w + 100 * nI k + 10 * nI d + v + 1) = nI d ∧ sp_ve (1000 * nI w + 100 * nI k + 10 * nI d + v + 1) = v := by
  rw [mk_co hw hk hd he hv, vk_nI (by omega), vd_nI (by omega), ve_nI (by omega)]
  refine ⟨by congr 1; omega, by congr 1; omega, ?_⟩
  rw [hv]; congr 2; omega
end
set_option maxRecDepth 100000 in
/-- addVersion, in numbers: the change lies at ca, under the name that it will have -/
theorem m_X4_addV (l : Launch) (hflag : l.stackTraces = false) (G : k_G) (Z : Nat → Prop) (ad : k_Ad) (mm : q_Mem) (w ca : Nat) (kk dd ff : Int32) (hI : Inv mm) (hw : w < sp_W mm) (hv1 : sp_vk (1000 * nI w + 100 * kk + 10 * dd + ff + 1) = kk) (hv2 : sp_vd (1000 * nI w + 100 * kk + 10 * dd + ff + 1) = dd) (hv3 : sp_ve (1000 * nI w + 100 * kk + 10 * dd + ff + 1) = ff) :
    kx_v l yX4_addVersion cX4_addVersion 3 none 3 69 1 4 G Z (k_ad ad 4 (sp_K mm) ca) (k_up (k_rm (k_C G ad mm) 5 w) 4 (sp_K mm) (.inr (1, [.int kk, .int dd, .int ff]))) [.ref (ad 0 0), .ref (ad 1 w), .ref ca] (fun u => ∃ q, u = (k_ad (k_ad ad 4 (sp_K mm) ca) 3 (sp_K mm) q, k_C G (k_ad (k_ad ad 4 (sp_K mm) ca) 3 (sp_K mm) q) (sp_make mm w kk dd ff))) (fun _ => False) := by
  have hLK := hI.LK hw
  have h := m_X4_addVersion l hflag G Z (k_ad ad 4 (sp_K mm) ca) (k_up (k_rm (k_C G ad mm) 5 w) 4 (sp_K mm) (.inr (1, [.int kk, .int dd, .int ff]))) w (sp_K mm) (sp_L mm w) ca (.ref (ad 0 1)) (.ref (ad 0 2)) (.ref (ad 0 3)) (.ref (ad 0 4)) (.ref (ad 0 5)) (mm 10 0) (mm 21 (sp_L mm w)) (.ref (ad 4 (sp_L mm w))) (.int (nI (sp_L mm w + 1))) (k_rf (mm 12 (sp_L mm w) = -1) (ad 3 (sp_A mm (sp_L mm w)))) (.int (mm 2 w)) (.int (mm 3 w)) (.int (mm 4 w)) (.int (mm 5 w)) (.int (mm 6 w)) (k_rf (mm 9 w = -1) (ad 5 w)) (.ref (ad 2 w))
    ((k_up_o (by simp)).trans ((k_rm_o (by simp)).trans rfl)) ((k_up_o (by simp)).trans ((k_rm_o (by simp)).trans (if_neg (Nat.lt_irrefl _)))) ((k_up_o (by simp)).trans ((k_rm_o (by simp)).trans (kc_v hLK))) (by omega) ((k_up_o (by simp)).trans ((k_rm_o (by simp)).trans (by rw [kc_w hw, k_ad_o (by simp)]; rfl)))
  rw [k_ad_o (by simp), k_ad_o (by simp), k_ad_o (by simp)] at h
  have e : (fun u : k_Ad × k_Ct => ∃ q, u = (k_ad (k_ad ad 4 (sp_K mm) ca) 3 (sp_K mm) q, k_up (k_up (k_up (k_up (k_rm (k_C G ad mm) 5 w) 4 (sp_K mm) (.inr (1, [.int kk, .int dd, .int ff]))) 0 0 (.inr (5, [.ref (ad 0 1), .ref (ad 0 2), .ref (ad 0 3), .ref (ad 0 4), .ref (ad 0 5), .int (mm 10 0 + 1)]))) 3 (sp_K mm) (.inr (3, [.ref ca, .int (mm 10 0 + 1), .int (mm 21 (sp_L mm w) + 1), .ref (ad 3 (sp_L mm w))]))) 1 w (.inr (4, [.int (mm 2 w), .int (mm 3 w), .int (mm 4 w), .int (mm 5 w), .int (mm 6 w), .ref q, .null, .ref (ad 2 w)])))) = fun u => ∃ q, u = (k_ad (k_ad ad 4 (sp_K mm) ca) 3 (sp_K mm) q, k_C G (k_ad (k_ad ad 4 (sp_K mm) ca) 3 (sp_K mm) q) (sp_make mm w kk dd ff)) := by
    funext u
    refine propext ⟨fun ⟨q, hq⟩ => ⟨q, ?_⟩, fun ⟨q, hq⟩ => ⟨q, ?_⟩⟩
    · rw [hq, kmake hI hw hv1 hv2 hv3]
    · rw [hq, kmake hI hw hv1 hv2 hv3]
  rw [← e]
  exact h
/-- a change that waits, as numbers -/
theorem kwait {G : k_G} {ad : k_Ad} {mm : q_Mem} {w q : Nat} {kk dd ff v : Int32} (hw : w < sp_W mm) (hv : ¬ v = -1) (hv1 : v / 100 = kk) (hv2 : sp_vd v = dd) (hv3 : sp_ve v = ff) :
    k_up (k_up (k_rm (k_C G ad mm) 5 w) 5 w (.inr (1, [.int kk, .int dd, .int ff]))) 1 w (.inr (4, [.int (mm 2 w), .int (mm 3 w), .int (mm 4 w), .int (mm 5 w), .int (mm 6 w), .ref (ad 3 (sp_L mm w)), .ref q, .ref (ad 2 w)])) = k_C G (k_ad ad 5 w q) (up2 mm 9 w v) := by
  generalize hAD : k_ad ad 5 w q = ad2
  have a5 : ad2 5 w = q := by rw [← hAD, k_ad_s]
  have ao : ∀ a b, ¬ (a = 5 ∧ b = w) → ad2 a b = ad a b := fun a b h => by rw [← hAD, k_ad_o h]
  have e1 : ∀ k, k ≠ 9 → up2 mm 9 w v k = mm k := fun k h => up2_k h
  have eW : sp_W (up2 mm 9 w v) = sp_W mm := rfl
  have eK : sp_K (up2 mm 9 w v) = sp_K mm := rfl
  refine up_of ?_ fun a b z => ?_
  · show (if w < sp_W (up2 mm 9 w v) then some (.inr (4, k_wy ad2 (up2 mm 9 w v) w)) else none : Option va_E) = _
    rw [eW, if_pos hw]
    unfold k_wy
    rw [up2_s, a5, ao 3 _ (by simp), ao 2 _ (by simp), e1 2 (by decide), e1 3 (by decide), e1 4 (by decide), e1 5 (by decide), e1 6 (by decide)]
    unfold k_rf
    rw [if_neg hv]
    rfl
  · by_cases y : a = 5 ∧ b = w
    · obtain ⟨rfl, rfl⟩ := y
      rw [k_up_s]
      show _ = (if b < sp_W (up2 mm 9 b v) ∧ ¬ up2 mm 9 b v 9 b = -1 then some (.inr (1, k_wc (up2 mm 9 b v 9 b))) else none : Option va_E)
      rw [up2_s, eW, if_pos ⟨hw, hv⟩]
      unfold k_wc
      rw [hv1, hv2, hv3]
    · rw [k_up_o y, k_rm_o y]
      match a with
      | 0 =>
        match b with
        | 0 =>
          show (some (.inr (5, k_mp ad mm)) : Option va_E) = some (.inr (5, k_mp ad2 (up2 mm 9 w v)))
          unfold k_mp
          rw [ao 0 1 (by simp), ao 0 2 (by simp), ao 0 3 (by simp), ao 0 4 (by simp), ao 0 5 (by simp), e1 10 (by decide)]
        | 1 =>
          show (some (.inr (0, k_li G ad mm)) : Option va_E) = some (.inr (0, k_li G ad2 (up2 mm 9 w v)))
          unfold k_li
          rw [ao 0 6 (by simp), e1 1 (by decide), eW]
        | 2 => show (some (.inl (G.2.1, 6, .inl (mm 0))) : Option va_E) = some (.inl (G.2.1, 6, .inl (up2 mm 9 w v 0))); rw [e1 0 (by decide)]
        | 3 => show (some (.inl (G.2.1, 3, .inl (mm 15))) : Option va_E) = some (.inl (G.2.1, 3, .inl (up2 mm 9 w v 15))); rw [e1 15 (by decide)]
        | 4 => show (some (.inl (G.2.1, 3, .inl (mm 16))) : Option va_E) = some (.inl (G.2.1, 3, .inl (up2 mm 9 w v 16))); rw [e1 16 (by decide)]
        | 5 =>
          show (some (.inl (G.2.2.1, 341, .inr (.inr (.inr (.inr (k_tr ad mm)))))) : Option va_E) = some (.inl (G.2.2.1, 341, .inr (.inr (.inr (.inr (k_tr ad2 (up2 mm 9 w v)))))))
          have e : k_tr ad2 (up2 mm 9 w v) = k_tr ad mm := by
            funext t
            unfold k_tr
            rw [e1 13 (by decide), ao 6 t (by simp)]
          rw [e]
        | 6 =>
          show (if sp_W mm = 0 then none else some (.inl (G.2.2.2.1, k_cp (sp_W mm), .inr (.inr (.inr (.inr (k_er ad mm)))))) : Option va_E) = if sp_W (up2 mm 9 w v) = 0 then none else some (.inl (G.2.2.2.1, k_cp (sp_W (up2 mm 9 w v)), .inr (.inr (.inr (.inr (k_er ad2 (up2 mm 9 w v)))))))
          have e : k_er ad2 (up2 mm 9 w v) = k_er ad mm := by
            funext t
            unfold k_er
            rw [eW, ao 1 t (by simp)]
          rw [e, eW]
        | n + 7 => show (none : Option va_E) = none; rfl
      | 1 =>
        have hb : b ≠ w := fun x => z ⟨rfl, x⟩
        show (if b < sp_W mm then some (.inr (4, k_wy ad mm b)) else none : Option va_E) = if b < sp_W (up2 mm 9 w v) then some (.inr (4, k_wy ad2 (up2 mm 9 w v) b)) else none
        have e : k_wy ad2 (up2 mm 9 w v) b = k_wy ad mm b := by
          unfold k_wy
          rw [up2_i hb, ao 3 _ (by simp), ao 5 b (fun x => hb x.2), ao 2 _ (by simp), e1 2 (by decide), e1 3 (by decide), e1 4 (by decide), e1 5 (by decide), e1 6 (by decide)]
          rfl
        rw [e, eW]
      | 2 => show (if b < sp_W mm then some (.inl (G.2.1, 9, .inl (k_db mm b))) else none : Option va_E) = if b < sp_W (up2 mm 9 w v) then some (.inl (G.2.1, 9, .inl (k_db (up2 mm 9 w v) b))) else none; rfl
      | 3 =>
        show (if b < sp_K mm then some (.inr (3, k_vs ad mm b)) else none : Option va_E) = if b < sp_K (up2 mm 9 w v) then some (.inr (3, k_vs ad2 (up2 mm 9 w v) b)) else none
        have e : k_vs ad2 (up2 mm 9 w v) b = k_vs ad mm b := by
          unfold k_vs sp_A
          rw [ao 4 _ (by simp), ao 3 _ (by simp), e1 21 (by decide), e1 12 (by decide)]
        rw [e, eK]
      | 4 => show (if b < sp_K mm then some (.inr (1, k_ch (mm 11 b))) else none : Option va_E) = if b < sp_K (up2 mm 9 w v) then some (.inr (1, k_ch (up2 mm 9 w v 11 b))) else none; rfl
      | 5 =>
        have hb : b ≠ w := fun x => y ⟨rfl, x⟩
        show (if b < sp_W mm ∧ ¬ mm 9 b = -1 then some (.inr (1, k_wc (mm 9 b))) else none : Option va_E) = if b < sp_W (up2 mm 9 w v) ∧ ¬ up2 mm 9 w v 9 b = -1 then some (.inr (1, k_wc (up2 mm 9 w v 9 b))) else none
        rw [up2_i hb, eW]
      | 6 => show (if b < 341 ∧ ¬ mm 13 b = 0 then some (.inr (2, k_tl mm b)) else none : Option va_E) = if b < 341 ∧ ¬ up2 mm 9 w v 13 b = 0 then some (.inr (2, k_tl (up2 mm 9 w v) b)) else none; rfl
      | n + 7 => show (none : Option va_E) = none; rfl
