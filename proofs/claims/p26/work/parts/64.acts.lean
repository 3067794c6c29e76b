set_option maxHeartbeats 1000000 in
set_option maxRecDepth 100000 in
theorem c_L_acts (l : Launch) (hfl : l.stackTraces = false) (D : va_G) (t : ClassId × ClassId × ClassId) (sz : Nat) (a b : Nat → Nat) (qb qv qc : Nat) {S : zS} {p p2 : zT} {fB fV fC : Nat → Int32} {sc tk : Nat → Nat} {x y z G : Nat} (hGx : Gx S p p2 fB fV fC sc tk x y z G) (v5 v6 : Int32) : zM8 l yL_acts cL_acts 14 (some .boolean) 34 20 120 D t [.ref (a 0), .ref (b 0), .ref qb, .ref qv, .ref qc, .int v5, .int v6] (wA t a b (T6 S p) (T6 S p2) qb qv qc fB fV fC) sz (fun r (u : zU) => r = nI 1 ∧ Gd u) (fun u => wG t a b qb qv qc u) := by
  refine z_m8 (by decide +kernel) (Nat.le_of_ble_eq_true rfl) (by simp [Value.category]) ?_
  intro E X Z V Y
  refine z_lv (lv' := [some (.ref (a 0)), some (.ref (b 0)), some (.ref qb), some (.ref qv), some (.ref qc), some (.int v5), some (.int v6), none, none, none, none, none, none, none]) rfl ?_
  refine z_iload X dL_acts_0 rfl ?_
  refine z_bipush (v := nI 24) X dL_acts_2 (by decide) ?_
  refine z_callS1 (k := 0) (n := 0) (st := []) X (c_L_low l D t v5 24 (by decide) (by decide)) k_L_low q_ml_L_129 [] ⟨by decide, rfl⟩ (by decide) rfl rfl rfl (Nat.le_of_ble_eq_true rfl) ⟨by omega, by omega⟩ dL_acts_4 (fun r4 h4 => ?_)
  subst h4
  have hl4 : lo v5 24 < 24 := lo_lt (by decide)
  refine z_istore X dL_acts_7 (Nat.le_of_ble_eq_true rfl) ?_
  refine z_lv (lv' := [some (.ref (a 0)), some (.ref (b 0)), some (.ref qb), some (.ref qv), some (.ref qc), some (.int v5), some (.int v6), some (.int (nI (lo v5 24))), none, none, none, none, none, none]) rfl ?_
  refine z_iload X dL_acts_9 rfl ?_
  refine z_iconst (v := nI 5) X dL_acts_11 (by decide) ?_
  refine z_ishr X dL_acts_12 ?_
  refine z_bipush (v := nI 8) X dL_acts_13 (by decide) ?_
  refine z_callS1 (k := 0) (n := 0) (st := []) X (c_L_low l D t (v5 >>> (nI 5 &&& 31)) 8 (by decide) (by decide)) k_L_low q_ml_L_129 [] ⟨by decide, rfl⟩ (by decide) rfl rfl rfl (Nat.le_of_ble_eq_true rfl) ⟨by omega, by omega⟩ dL_acts_15 (fun r15 h15 => ?_)
  subst h15
  have hl15 : lo (v5 >>> (nI 5 &&& 31)) 8 < 8 := lo_lt (by decide)
  refine z_istore X dL_acts_18 (Nat.le_of_ble_eq_true rfl) ?_
  refine z_lv (lv' := [some (.ref (a 0)), some (.ref (b 0)), some (.ref qb), some (.ref qv), some (.ref qc), some (.int v5), some (.int v6), some (.int (nI (lo v5 24))), some (.int (nI (lo (v5 >>> (nI 5 &&& 31)) 8))), none, none, none, none, none]) rfl ?_
  refine z_iload X dL_acts_20 rfl ?_
  refine z_iconst (v := nI 3) X dL_acts_22 (by decide) ?_
  refine n_icmp_ge (tgt := 243) X dL_acts_23 (by decide) (by omega) (by omega) (fun c23 => ?_) (fun c23 => ?_)
  ·
    refine z_iload X dL_acts_243 rfl ?_
    refine z_iconst (v := nI 3) X dL_acts_245 (by decide) ?_
    refine n_icmp_ne (tgt := 329) X dL_acts_246 (by decide) (by omega) (by omega) (fun c246 => ?_) (fun c246 => ?_)
    ·
      refine z_iload X dL_acts_329 rfl ?_
      refine z_bipush (v := nI 7) X dL_acts_331 (by decide) ?_
      refine n_icmp_ge (tgt := 516) X dL_acts_333 (by decide) (by omega) (by omega) (fun c333 => ?_) (fun c333 => ?_)
      ·
        refine z_iload X dL_acts_516 rfl ?_
        refine z_bipush (v := nI 9) X dL_acts_518 (by decide) ?_
        refine n_icmp_ge (tgt := 724) X dL_acts_520 (by decide) (by omega) (by omega) (fun c520 => ?_) (fun c520 => ?_)
        ·
          refine z_iload X dL_acts_724 rfl ?_
          refine z_bipush (v := nI 11) X dL_acts_726 (by decide) ?_
          refine n_icmp_ge (tgt := 874) X dL_acts_728 (by decide) (by omega) (by omega) (fun c728 => ?_) (fun c728 => ?_)
          ·
            refine z_iload X dL_acts_874 rfl ?_
            refine z_bipush (v := nI 16) X dL_acts_876 (by decide) ?_
            refine n_icmp_ge (tgt := 1018) X dL_acts_878 (by decide) (by omega) (by omega) (fun c878 => ?_) (fun c878 => ?_)
            ·
              refine z_iload X dL_acts_1018 rfl ?_
              refine z_bipush (v := nI 20) X dL_acts_1020 (by decide) ?_
              refine n_icmp_ge (tgt := 1038) X dL_acts_1022 (by decide) (by omega) (by omega) (fun c1022 => ?_) (fun c1022 => ?_)
              ·
                refine z_iload X dL_acts_1038 rfl ?_
                refine z_bipush (v := nI 20) X dL_acts_1040 (by decide) ?_
                refine n_icmp_ne (tgt := 1198) X dL_acts_1042 (by decide) (by omega) (by omega) (fun c1042 => ?_) (fun c1042 => ?_)
                ·
                  refine z_iload X dL_acts_1198 rfl ?_
                  refine z_bipush (v := nI 21) X dL_acts_1200 (by decide) ?_
                  refine n_icmp_ne (tgt := 1273) X dL_acts_1202 (by decide) (by omega) (by omega) (fun c1202 => ?_) (fun c1202 => ?_)
                  ·
                    exact act_exch hfl v5 v6 _ _ hl15 X Z V Y hGx
                  ·
                    exact act_clear hfl v5 v6 _ _ hl15 X Z V Y hGx
                ·
                  exact act_lose hfl v5 v6 _ _ hl15 X Z V Y hGx
              ·
                exact act_takes hfl v5 v6 _ _ hl15 X Z V Y hGx
            ·
              exact act_level hfl v5 v6 _ _ hl15 X Z V Y hGx
          ·
            exact act_score hfl v5 v6 _ _ hl15 X Z V Y hGx
        ·
          exact act_value hfl v5 v6 _ _ hl15 X Z V Y hGx
      ·
        exact act_bonus hfl v5 v6 _ _ hl15 X Z V Y hGx
    ·
      exact act_bar hfl v5 v6 _ _ hl15 X Z V Y hGx
  ·
    exact act_needs hfl v5 v6 _ _ hl15 X Z V Y hGx
