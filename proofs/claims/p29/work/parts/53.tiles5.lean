section
variable {p : Program} {l : Launch} {e : Env} {R : Room} {s : State} {m : MethodId} {args : Array Value} {below : List Frame} {meth : Method} {c : Code} {H : Heap} {locs : List Loc} {cells slots : Nat} {Q : State → Prop}
variable {cc : ByteArray} {pc nL : Nat} {ls : Array Slot} {rest st0 : List Value} {H0 : Heap} {own : String} {G : k_G} {Z : Nat → Prop} {ad : k_Ad} {ct : k_Ct}
/-- a reference into a row: the row's class says which -/
theorem k_astq (hF : CallFix p m c cc nL s args wsL_law own) (hK : va_K G.1 vwCl (k_ty G) s) (hM : k_H G ad ct H) (hN : k_N Z ad ct) (hS : va_S Z H0 H locs) (K j : Nat) {n i t0 ci : Nat} {cA : ClassId} {r : vw_C} {f : Nat → Option Nat} {vs : List Value} {v : Nat} (he : ct K j = some (.inl (cA, n, .inr (.inr (.inr (.inr f)))))) (ht : (k_ty G)[t0]? = some (cA, .object r.1)) (hv : va_at G.1 vwCl (v, .inr (ci, vs)) H) (hc : vwCl[ci]? = some r) {x : Int32} (hx : x = nI i) (hi : i < n) (hn : n < 2 ^ 31) (hdg : decode cc pc = .ok (.aastore, 1))
    (kk : ∀ (H1 : Heap) (locs1 : List Loc), k_H G ad (k_up ct K j (.inl (cA, n, .inr (.inr (.inr (.inr (va_up f i (some v)))))))) H1 → k_N Z ad (k_up ct K j (.inl (cA, n, .inr (.inr (.inr (.inr (va_up f i (some v)))))))) → va_S Z H0 H1 locs1 → W p l e R s m args below meth c H1 locs1 cells slots Q (F0 m (pc + 1) ls rest)) : W p l e R s m args below meth c H locs cells slots Q (F0 m pc ls (.ref v :: .int x :: .ref (ad K j) :: rest)) := by
  subst hx
  have hcl : (nI i).toNatClampNeg = i := nI_clamp (Nat.lt_trans hi hn)
  have hin := vp_in_nI hi hn
  have hlt : (nI i).toNatClampNeg < n := Nat.not_le.mp fun q => hin (Or.inr q)
  have h0 : ¬ nI i < 0 := fun q => hin (Or.inl q)
  obtain ⟨r', hr', cellV, g1, g2, g3, -⟩ := hv
  have hcls := (hK.1 ci r hc).2
  have hrr : r' = r := Option.some.inj (hr'.symm.trans hc)
  subst hrr
  obtain ⟨kA, comp, k1, k2, k3, -⟩ := (hK.2 t0 _ ht).2
  have hcomp : comp = G.1.1 ci := Option.some.inj (k3.symm.trans hcls.1)
  subst hcomp
  obtain ⟨kC, hkC, -⟩ := hcls.2
  refine W.aast hF.1 hF.2.1 (hM K j _ he) (fun q h => by cases h) (fun h => by cases h) k1 k2 rfl hkC ⟨h0, by show _ < (arrV _ _ _).slots.size; rw [arrV_size]; exact hlt⟩ g1 (fun q h => by rw [g3] at h; cases h) (by rw [g2]; exact hkC) (by rw [g2]; exact va_assign hcls) rfl rfl hdg fun H1 e z oq => ?_
  have h1 : va_at G.1 vwCl (ad K j, .inl (cA, n, .inr (.inr (.inr (.inr (va_up f i (some v))))))) H1 := by
    show H1[ad K j]? = some (vp_cell _ _)
    rw [e, vp_cell_q, vp_cell_q, arrV_store, hcl]
    congr 2
    funext q
    by_cases hq : q = i
    · subst hq
      simp [updV, va_up, va_rf]
    · simp [updV, va_up, hq]
  exact kk H1 _ (k_upd hM hN he h1 oq) (k_updN hN he) (hS.put z oq (hN.2 K j _ he))
end
/-- a tile that was never drawn gets its cell, as numbers -/
theorem ktile {G : k_G} {ad : k_Ad} {mm : q_Mem} {t q : Nat} (ht : t < 341) :
    k_up (k_up (k_C G ad mm) 6 t (.inr (2, [.int (nI (tz_t t)), .int (nI (tx_t t) * sp_sd (nI (tz_t t))), .int (nI (tx_t t) * sp_sd (nI (tz_t t)) + sp_sd (nI (tz_t t))), .int (nI (ty_t t) * sp_sd (nI (tz_t t))), .int (nI (ty_t t) * sp_sd (nI (tz_t t)) + sp_sd (nI (tz_t t))), .int 0, .int 0]))) 0 5 (.inl (G.2.2.1, 341, .inr (.inr (.inr (.inr (va_up (k_tr ad mm) t (some q))))))) = k_C G (k_ad ad 6 t q) (up2 (up2 mm 13 t 1) 14 t 0) := by
  generalize hAD : k_ad ad 6 t q = ad2
  have a6 : ad2 6 t = q := by rw [← hAD, k_ad_s]
  have ao : ∀ a b, ¬ (a = 6 ∧ b = t) → ad2 a b = ad a b := fun a b h => by rw [← hAD, k_ad_o h]
  have e1 : ∀ k, k ≠ 13 → k ≠ 14 → up2 (up2 mm 13 t 1) 14 t 0 k = mm k := fun k h h2 => by rw [up2_k h2, up2_k h]
  have e13 : ∀ b, up2 (up2 mm 13 t 1) 14 t 0 13 b = if b = t then 1 else mm 13 b := fun b => by
    rw [up2_c (by decide)]
    by_cases h : b = t
    · subst h; rw [up2_s, if_pos rfl]
    · rw [up2_i h, if_neg h]
  have eW : sp_W (up2 (up2 mm 13 t 1) 14 t 0) = sp_W mm := rfl
  have eK : sp_K (up2 (up2 mm 13 t 1) 14 t 0) = sp_K mm := rfl
  have m1 : ∀ x sd : Int32, sd * x = x * sd := fun x sd => Int32.mul_comm _ _
  have m2 : ∀ x sd : Int32, sd * (x + 1) = x * sd + sd := fun x sd => by rw [Int32.mul_add, Int32.mul_one, Int32.mul_comm]
  refine up_of ?_ fun a b z => ?_
  · show (some (.inl (G.2.2.1, 341, .inr (.inr (.inr (.inr (k_tr ad2 (up2 (up2 mm 13 t 1) 14 t 0)))))) ) : Option va_E) = _
    have e : k_tr ad2 (up2 (up2 mm 13 t 1) 14 t 0) = va_up (k_tr ad mm) t (some q) := by
      funext b
      unfold k_tr
      rw [e13]
      by_cases h : b = t
      · subst h
        rw [if_pos rfl, if_neg (by decide), a6]
        simp [va_up]
      · rw [if_neg h, ao 6 b (fun x => h x.2)]
        simp [va_up, h]
    rw [e]
  · by_cases y : a = 6 ∧ b = t
    · obtain ⟨rfl, rfl⟩ := y
      rw [k_up_s]
      show _ = (if b < 341 ∧ ¬ up2 (up2 mm 13 b 1) 14 b 0 13 b = 0 then some (.inr (2, k_tl (up2 (up2 mm 13 b 1) 14 b 0) b)) else none : Option va_E)
      rw [e13, if_pos rfl, if_pos ⟨ht, by decide⟩]
      unfold k_tl
      rw [e13, if_pos rfl, up2_s, m1 (nI (tx_t b)) (sp_sd (nI (tz_t b))), m2 (nI (tx_t b)) (sp_sd (nI (tz_t b))), m1 (nI (ty_t b)) (sp_sd (nI (tz_t b))), m2 (nI (ty_t b)) (sp_sd (nI (tz_t b))), show (1 : Int32) - 1 = 0 by decide]
    · rw [k_up_o y]
      match a with
      | 0 =>
        match b with
        | 0 =>
          show (some (.inr (5, k_mp ad mm)) : Option va_E) = some (.inr (5, k_mp ad2 (up2 (up2 mm 13 t 1) 14 t 0)))
          unfold k_mp
          rw [ao 0 1 (by simp), ao 0 2 (by simp), ao 0 3 (by simp), ao 0 4 (by simp), ao 0 5 (by simp), e1 10 (by decide) (by decide)]
        | 1 =>
          show (some (.inr (0, k_li G ad mm)) : Option va_E) = some (.inr (0, k_li G ad2 (up2 (up2 mm 13 t 1) 14 t 0)))
          unfold k_li
          rw [ao 0 6 (by simp), e1 1 (by decide) (by decide), eW]
        | 2 => show (some (.inl (G.2.1, 6, .inl (mm 0))) : Option va_E) = some (.inl (G.2.1, 6, .inl (up2 (up2 mm 13 t 1) 14 t 0 0))); rw [e1 0 (by decide) (by decide)]
        | 3 => show (some (.inl (G.2.1, 3, .inl (mm 15))) : Option va_E) = some (.inl (G.2.1, 3, .inl (up2 (up2 mm 13 t 1) 14 t 0 15))); rw [e1 15 (by decide) (by decide)]
        | 4 => show (some (.inl (G.2.1, 3, .inl (mm 16))) : Option va_E) = some (.inl (G.2.1, 3, .inl (up2 (up2 mm 13 t 1) 14 t 0 16))); rw [e1 16 (by decide) (by decide)]
        | 5 => exact absurd ⟨rfl, rfl⟩ z
        | 6 =>
          show (if sp_W mm = 0 then none else some (.inl (G.2.2.2.1, k_cp (sp_W mm), .inr (.inr (.inr (.inr (k_er ad mm)))))) : Option va_E) = if sp_W (up2 (up2 mm 13 t 1) 14 t 0) = 0 then none else some (.inl (G.2.2.2.1, k_cp (sp_W (up2 (up2 mm 13 t 1) 14 t 0)), .inr (.inr (.inr (.inr (k_er ad2 (up2 (up2 mm 13 t 1) 14 t 0)))))))
          have e : k_er ad2 (up2 (up2 mm 13 t 1) 14 t 0) = k_er ad mm := by
            funext b
            unfold k_er
            rw [eW, ao 1 b (by simp)]
          rw [e, eW]
        | n + 7 => show (none : Option va_E) = none; rfl
      | 1 =>
        show (if b < sp_W mm then some (.inr (4, k_wy ad mm b)) else none : Option va_E) = if b < sp_W (up2 (up2 mm 13 t 1) 14 t 0) then some (.inr (4, k_wy ad2 (up2 (up2 mm 13 t 1) 14 t 0) b)) else none
        have e : k_wy ad2 (up2 (up2 mm 13 t 1) 14 t 0) b = k_wy ad mm b := by
          unfold k_wy
          rw [ao 3 _ (by simp), ao 5 b (by simp), ao 2 _ (by simp), e1 2 (by decide) (by decide), e1 3 (by decide) (by decide), e1 4 (by decide) (by decide), e1 5 (by decide) (by decide), e1 6 (by decide) (by decide), e1 9 (by decide) (by decide)]
          rfl
        rw [e, eW]
      | 2 =>
        show (if b < sp_W mm then some (.inl (G.2.1, 9, .inl (k_db mm b))) else none : Option va_E) = if b < sp_W (up2 (up2 mm 13 t 1) 14 t 0) then some (.inl (G.2.1, 9, .inl (k_db (up2 (up2 mm 13 t 1) 14 t 0) b))) else none
        have e : k_db (up2 (up2 mm 13 t 1) 14 t 0) b = k_db mm b := by unfold k_db; rw [e1 20 (by decide) (by decide)]
        rw [e, eW]
      | 3 =>
        show (if b < sp_K mm then some (.inr (3, k_vs ad mm b)) else none : Option va_E) = if b < sp_K (up2 (up2 mm 13 t 1) 14 t 0) then some (.inr (3, k_vs ad2 (up2 (up2 mm 13 t 1) 14 t 0) b)) else none
        have e : k_vs ad2 (up2 (up2 mm 13 t 1) 14 t 0) b = k_vs ad mm b := by
          unfold k_vs sp_A
          rw [ao 4 _ (by simp), ao 3 _ (by simp), e1 21 (by decide) (by decide), e1 12 (by decide) (by decide)]
        rw [e, eK]
      | 4 =>
        show (if b < sp_K mm then some (.inr (1, k_ch (mm 11 b))) else none : Option va_E) = if b < sp_K (up2 (up2 mm 13 t 1) 14 t 0) then some (.inr (1, k_ch (up2 (up2 mm 13 t 1) 14 t 0 11 b))) else none
        rw [e1 11 (by decide) (by decide), eK]
      | 5 =>
        show (if b < sp_W mm ∧ ¬ mm 9 b = -1 then some (.inr (1, k_wc (mm 9 b))) else none : Option va_E) = if b < sp_W (up2 (up2 mm 13 t 1) 14 t 0) ∧ ¬ up2 (up2 mm 13 t 1) 14 t 0 9 b = -1 then some (.inr (1, k_wc (up2 (up2 mm 13 t 1) 14 t 0 9 b))) else none
        rw [e1 9 (by decide) (by decide), eW]
      | 6 =>
        have hb : b ≠ t := fun x => y ⟨rfl, x⟩
        show (if b < 341 ∧ ¬ mm 13 b = 0 then some (.inr (2, k_tl mm b)) else none : Option va_E) = if b < 341 ∧ ¬ up2 (up2 mm 13 t 1) 14 t 0 13 b = 0 then some (.inr (2, k_tl (up2 (up2 mm 13 t 1) 14 t 0) b)) else none
        have e : k_tl (up2 (up2 mm 13 t 1) 14 t 0) b = k_tl mm b := by
          unfold k_tl
          rw [e13, if_neg hb, up2_i hb, up2_c (by decide)]
        rw [e, e13, if_neg hb]
      | n + 7 => show (none : Option va_E) = none; rfl
theorem draws_o {mm : q_Mem} {t : Nat} {z x y : Int32} : sp_draws (up2 (up2 mm 13 t 1) 14 t 0) t z x y = sp_draws mm t z x y := by
  have e : sp_pic (up2 (up2 mm 13 t 1) 14 t 0) z x y (sp_K (up2 (up2 mm 13 t 1) 14 t 0)) = sp_pic mm z x y (sp_K mm) := pic_x (fun k hk => by rw [up2_k (by omega), up2_k (by omega)]) z x y _
  have e10 : up2 (up2 mm 13 t 1) 14 t 0 10 0 = mm 10 0 := by rw [up2_c (by decide), up2_c (by decide)]
  unfold sp_draws
  rw [e, e10, up2_twice, up2_comm (show (13 : Nat) ≠ 14 by decide), up2_twice]
theorem cnt_x {A B : q_Mem} (h : ∀ k, k < 13 → A k = B k) (z x y : Int32) (n : Nat) (q : Int32) : it_n (sp_cnt1 A z x y) n q = it_n (sp_cnt1 B z x y) n q := by
  have e : sp_cnt1 A z x y = sp_cnt1 B z x y := by
    funext w q
    unfold sp_cnt1 sp_isin sp_L
    rw [h 11 (by decide), h 8 (by decide), h 2 (by decide), h 3 (by decide), h 4 (by decide), h 5 (by decide)]
  rw [e]
