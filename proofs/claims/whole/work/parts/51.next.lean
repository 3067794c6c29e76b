section ZC4
variable {E : zE} {k n i : Nat} {D : va_G} {t : ClassId × ClassId × ClassId} {l : Launch} {a b : Nat → Nat} {o bs : Nat}
theorem lw_next (X : zX E RL code 7 (zRm 64 601024 7293034) D t l) (kk : HL E t a b o bs k n 23 (i + 7)) : HL E t a b o bs k n 1208 i := by
  intro S sc tk m G x y z s e f g q hI
  refine z_iinc (v := nI (i + 7)) X dL_law_1208 rfl (nI_add i 7) ?_
  refine z_lv (lv' := [some (.ref bs), some (.ref (a 0)), some (.ref (b 0)), some (.ref o), some (.int (nI (i + 7))), none, none]) rfl ?_
  refine z_goto (tgt := 23) X dL_law_1211 (by decide) ?_
  exact kk S sc tk m G x y z s e f g q hI
theorem HL.wide {pc k' n' : Nat} (h1 : k ≤ k') (h2 : n ≤ n') (kk : HL E t a b o bs k' n' pc i) : HL E t a b o bs k n pc i := fun S sc tk m G x y z s e f g q hI => Wz.wide h1 h2 (kk S sc tk m G x y z s e f g q hI)
end ZC4
