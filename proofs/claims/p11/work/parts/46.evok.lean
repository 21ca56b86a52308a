/-! copies, calls, and the whole -/
theorem ev_cp_ok {D : Nat} {src : ev_X} {sp dp : Nat} : ∀ (n : Nat) (t : ev_X) (c : ev_X → ev_R), dp + n ≤ 2 ^ D → ∃ t', ev_cp D src sp dp n t c = c t' ∧ ∀ j, j < 2 ^ D → ev_g t' j = if dp ≤ j ∧ j < dp + n then ev_g src (sp + (j - dp)) else ev_g t j
  | 0, t, c, _ => ⟨t, rfl, fun j _ => by
    have : ¬ (dp ≤ j ∧ j < dp + 0) := by omega
    simp only [this, ↓reduceIte]⟩
  | n + 1, t, c, h => by
    obtain ⟨t', e, ht⟩ := ev_cp_ok (D := D) (src := src) (sp := sp) (dp := dp) n (ev_ps D t (dp + n) (.num (ev_g src (sp + n)))) c (by omega)
    refine ⟨t', ?_, fun j hj => ?_⟩
    · show ev_f (ev_g src (Nat.add sp n)) (fun v => ev_s D t (Nat.add dp n) (.num v) (fun t => ev_cp D src sp dp n t c)) = _
      rw [ev_f_eq, ev_s_eq]
      exact e
    · rw [ht j hj, ev_ps_get ev_Rd_g (fun _ _ => rfl) D _ _ _ (by omega) hj]
      by_cases h1 : dp ≤ j ∧ j < dp + n
      · have h2 : dp ≤ j ∧ j < dp + (n + 1) := by omega
        simp only [h1, h2, and_self, ↓reduceIte]
      · by_cases h3 : j = dp + n
        · have h2 : dp ≤ j ∧ j < dp + (n + 1) := by omega
          have h4 : sp + (j - dp) = sp + n := by omega
          rw [if_neg h1, if_pos h3, if_pos h2, h4]
          rfl
        · have h2 : ¬ (dp ≤ j ∧ j < dp + (n + 1)) := by omega
          simp only [h1, h2, h3, ↓reduceIte]
theorem ok_ac {pc a b j q : Nat} {v : Int32} : ev_OK (pc, .invokestatic q, a, b, j + 3, v) eh_ac := fun X E ml hn mi d cs sc nx to cal hsc hnx hto hcal ls st S r ls' st' h Q H hl hs hr hQ => by
  unfold eh_ac ev_ac at H
  split at H
  · rename_i nn nd pq ns pp rr
    obtain ⟨w, r', rfl, ⟨n, rfl, en⟩, hs1⟩ := ev_gs_cons hs
    obtain ⟨w, r', rfl, ⟨dp, rfl, ed⟩, hs2⟩ := ev_gs_cons hs1
    obtain ⟨w, r', rfl, hx, hs3⟩ := ev_gs_cons hs2
    have e : w = .ref _ := hx
    subst e
    obtain ⟨w, r', rfl, ⟨sp, rfl, es⟩, hs4⟩ := ev_gs_cons hs3
    obtain ⟨w, r', rfl, hx', hs5⟩ := ev_gs_cons hs4
    have e : w = .ref _ := hx'
    subst e
    obtain ⟨hf, H⟩ := ev_cond H
    obtain ⟨tag, len, ai, al, ar, hp, H, hc⟩ := ev_cl_ok H hr
    obtain ⟨h1, H⟩ := ev_cond H
    obtain ⟨h1, h2⟩ := ev_and h1
    obtain ⟨h2, h3⟩ := ev_and h2
    have e1 := Nat.eq_of_beq_eq_true h1
    have h2 := Nat.ble_eq.mp h2
    have h3 := Nat.ble_eq.mp h3
    obtain ⟨tag', len', ai', al', ar', hp', H, hc'⟩ := ev_cl_ok H hr
    obtain ⟨h1', H3⟩ := ev_cond H
    obtain ⟨h1', h2'⟩ := ev_and h1'
    obtain ⟨h2', h3'⟩ := ev_and h2'
    have e1' := Nat.eq_of_beq_eq_true h1'
    have h2' := Nat.ble_eq.mp h2'
    have h3' := Nat.ble_eq.mp h3'
    subst e1
    subst e1'
    have h2 : ns + nn ≤ len := h2
    have h2' : nd + nn ≤ len' := h2'
    have fn := ev_nI en (by omega)
    have fd := ev_nI ed (by omega)
    have fs := ev_nI es (by omega)
    have cn : n.toNatClampNeg = nn := by rw [fn]; exact nI_clamp (by omega)
    have cd : dp.toNatClampNeg = nd := by rw [fd]; exact nI_clamp (by omega)
    have csp : sp.toNatClampNeg = ns := by rw [fs]; exact nI_clamp (by omega)
    have hl2 : len' < 2 ^ ev_dp 1000 len' := Nat.lt_log2_self
    have hl1 : len < 2 ^ ev_dp 1000 len := Nat.lt_log2_self
    obtain ⟨t', e, ht⟩ := ev_cp_ok (D := ev_dp 1000 len') (src := ai) (sp := ns) (dp := nd) nn ai' (fun ai' => ev_pc S pq 1000 len' ai' al' ar' (fun S => nx ls rr S)) (by omega)
    rw [e] at H3
    obtain ⟨S', e', hS⟩ := ev_pc_ok (S := S) (c := fun S => nx ls rr S) (tag := 1000) (len := len') (ai := t') (al := al') (ar := ar') (h' := ez_rowI h pq (va_cpy (ez_I h pp) (ez_I h pq) ns nd nn)) hr hp' rfl rfl (fun q hq => ⟨rfl, rfl, by
      show ez_row (ez_I h) pq _ q = _
      unfold ez_row
      simp only [hq, ↓reduceIte], rfl, rfl⟩) ⟨hc'.1, hc'.2.1, fun j hj => by
      obtain ⟨b1, b2, b3⟩ := hc'.2.2 j hj
      refine ⟨?_, b2, b3⟩
      rw [ht j (ev_szl hj)]
      show ev_gi _ (ez_row (ez_I h) pq (va_cpy (ez_I h pp) (ez_I h pq) ns nd nn) pq j)
      unfold ez_row va_cpy
      simp only [↓reduceIte]
      by_cases hj2 : nd ≤ j ∧ j < nd + nn
      · simp only [hj2, and_self, ↓reduceIte]
        exact (hc.2.2 _ (show ns + (j - nd) < len by omega)).1
      · simp only [hj2, ↓reduceIte]
        exact b1⟩
    rw [e'] at H3
    exact gw_sm rfl rfl rfl rfl rfl ⟨ev_few_ok hs5 hf, ⟨hc.1, hc'.1⟩, by rw [fs]; exact nI_pos (by omega), by rw [fd]; exact nI_pos (by omega), by rw [fn]; exact nI_pos (by omega), by rw [csp, cn, hc.2.1]; exact h2, by rw [cd, cn, hc'.2.1]; exact h2'⟩ (hnx _ _ _ _ _ _ _ _ H3 hl hs5 (by rw [csp, cd, cn]; exact hS) hQ)
  · cases H
set_option maxHeartbeats 4000000 in
/-- every instruction -/
theorem ev_ok (e : ez_C) : ev_OK e (ev_tr e).2 := by
  obtain ⟨pc, i, a, b, k, v⟩ := e
  cases i
  case getfield q => rcases k with _ | _ | _ | _ | k; exact ok_gI (.inl rfl); exact ok_gI (.inr rfl); exact ok_gL; exact ok_gR; exact ok_gK
  case putfield q => rcases k with _ | _ | _ | k; exact ok_pI; exact ok_pZ; exact ok_no; exact ok_pR
  case invokespecial q => rcases k with _ | k; exact ok_oi; exact ok_cl (fun _ => rfl) (fun _ _ => rfl) (fun _ _ => rfl) (fun _ => rfl) (fun _ _ _ _ => rfl) (fun _ => rfl) (fun _ => rfl) rfl
  case invokestatic q => rcases k with _ | _ | _ | k; exact ok_cl (fun _ => rfl) (fun _ _ => rfl) (fun _ _ => rfl) (fun _ => rfl) (fun _ _ _ _ => rfl) (fun _ => rfl) (fun _ => rfl) rfl; exact ok_max; exact ok_min; exact ok_ac
  case invokevirtual q => exact ok_cl (fun _ => rfl) (fun _ _ => rfl) (fun _ _ => rfl) (fun _ => rfl) (fun _ _ _ _ => rfl) (fun _ => rfl) (fun _ => rfl) rfl
  case ireturn => rcases a with _ | a; exact ok_ri; exact ok_rz
  case iconst => exact ok_C (fun _ => rfl)
  case bipush => exact ok_C (fun _ => rfl)
  case sipush => exact ok_C (fun _ => rfl)
  case ldc => exact ok_C (fun _ => rfl)
  case ldc_w => exact ok_C (fun _ => rfl)
  case ldc2_w => exact ok_J (fun _ => rfl)
  case lconst => exact ok_J (fun _ => rfl)
  case i2b => exact ok_1 (fun _ _ => rfl)
  case ineg => exact ok_1 (fun _ _ => rfl)
  case iadd => exact ok_2 (fun _ _ _ => rfl) ef_add_ok
  case isub => exact ok_2 (fun _ _ _ => rfl) ef_sub_ok
  case imul => exact ok_2 (fun _ _ _ => rfl) ef_mul_ok
  case iand => exact ok_2 (fun _ _ _ => rfl) ef_and_ok
  case ior => exact ok_2 (fun _ _ _ => rfl) ef_or_ok
  case ixor => exact ok_2 (fun _ _ _ => rfl) ef_xor_ok
  case ishl => exact ok_2 (fun _ _ _ => rfl) ef_shl_ok
  case ishr => exact ok_2 (fun _ _ _ => rfl) ef_shr_ok
  case iushr => exact ok_2 (fun _ _ _ => rfl) ef_ushr_ok
  case ladd => exact ok_l2 (fun _ _ _ => rfl)
  case lsub => exact ok_l2 (fun _ _ _ => rfl)
  case lmul => exact ok_l2 (fun _ _ _ => rfl)
  case i2l => exact ok_i2l
  case l2i => exact ok_l2i
  case lcmp => exact ok_lcmp
  case dup => exact ok_dup
  case dup2 => exact ok_dup2
  case dup_x1 => exact ok_dupx
  case pop => exact ok_pop
  case iload q => exact ok_li (fun _ => rfl) (fun ls st x e => by unfold ez_ld; simp only [e])
  case iload_n q => exact ok_li (fun _ => rfl) (fun ls st x e => by unfold ez_ld; simp only [e])
  case lload q => exact ok_ll (fun _ => rfl) (fun ls st x e => by unfold ez_ld; simp only [e])
  case lload_n q => exact ok_ll (fun _ => rfl) (fun ls st x e => by unfold ez_ld; simp only [e])
  case aload q => exact ok_la (fun _ => rfl) (fun ls st x e => by unfold ez_ld; simp only [e]) (fun ls st x e => by unfold ez_ld; simp only [e])
  case aload_n q => exact ok_la (fun _ => rfl) (fun ls st x e => by unfold ez_ld; simp only [e]) (fun ls st x e => by unfold ez_ld; simp only [e])
  case istore q => exact ok_si (fun _ => rfl) (fun _ _ => rfl) (fun _ _ _ => rfl)
  case istore_n q => exact ok_si (fun _ => rfl) (fun _ _ => rfl) (fun _ _ _ => rfl)
  case lstore q => exact ok_sl (fun _ => rfl) (fun _ _ => rfl) (fun _ _ _ => rfl)
  case lstore_n q => exact ok_sl (fun _ => rfl) (fun _ _ => rfl) (fun _ _ _ => rfl)
  case astore q => exact ok_sa (fun _ => rfl) (fun _ _ => rfl) (fun _ _ _ => rfl) (fun _ _ _ => rfl)
  case astore_n q => exact ok_sa (fun _ => rfl) (fun _ _ => rfl) (fun _ _ _ => rfl) (fun _ _ _ => rfl)
  case iinc => exact ok_inc
  case ifCond => exact ok_b1
  case if_icmp => exact ok_b2
  case goto => exact ok_go
  case tableswitch df lo hi os => exact ok_sw (fun _ => rfl) (fun _ _ => rfl) (fun _ _ => rfl) (fun _ => rfl) (fun _ _ _ _ => rfl) (fun _ => rfl) (fun _ _ => rfl)
  case lookupswitch df ps => exact ok_sw (fun _ => rfl) (fun _ _ => rfl) (fun _ _ => rfl) (fun _ => rfl) (fun _ _ _ _ => rfl) (fun _ => rfl) (fun _ _ => rfl)
  case getstatic => exact ok_gs
  case iaload => exact ok_ia
  case baload => exact ok_ba
  case laload => exact ok_ja
  case iastore => exact ok_is
  case bastore => exact ok_bs
  case lastore => exact ok_js
  case arraylength => exact ok_al
  case idiv => exact ok_dv
  case irem => exact ok_rm
  case newarray => exact ok_na
  case new => exact ok_nw
  case lreturn => exact ok_rl
  case return_ => exact ok_rv
  case athrow => exact ok_th
  all_goals exact ok_no
