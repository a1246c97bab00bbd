/-! THE PURE MACHINE IS THE MACHINE: the induction -/
theorem sx_str_ok {η : Nat → Nat} {s : State} (h8 : ∀ i, i < 11 → vk_R RX2 (sx_slT.getD i (0, "")).1 (sx_slT.getD i (0, "")).2 (η (100 + i)) s) {cn : Nat} : ∀ ix k, sx_sl cn ix = some k → ∃ tx, vk_R (sx_cls cn) ix tx (η k) s := by
  intro ix k h
  unfold sx_sl at h
  split at h
  · rename_i hcn
    obtain ⟨i, hi, rfl⟩ := Option.map_eq_some_iff.mp h
    obtain ⟨hl, h1, -⟩ := List.findIdx?_eq_some_iff_getElem.mp hi
    have hl11 : i < 11 := hl
    have := h8 i hl11
    have e1 : (sx_slT.getD i (0, "")) = sx_slT[i]'hl := by rw [List.getD_eq_getElem?_getD, List.getElem?_eq_getElem hl]; rfl
    rw [e1] at this
    have h2 : (sx_slT[i]'hl).1 = ix := eq_of_beq h1
    rw [h2] at this
    subst hcn
    exact ⟨_, this⟩
  · cases h
set_option maxHeartbeats 4000000 in
theorem sx_snd {l : Launch} {η : Nat → Nat} {vF : Value} {D : va_G} {cI cJ cS : ClassId} {B : Nat → Prop} {G : sx_G} (hF : vF.category = 1) : ∀ n, sx_Snd l η vF D cI cJ cS B G n := by
  intro n
  induction n with
  | zero =>
    intro y pc L st A Z r A' Z' h
    simp [sx_run] at h
  | succ n ih =>
    intro y pc L st A Z r A' Z' h p e R s m args below meth c H locs cells slots ls Zf hx hb hml hown hts hcx hR hcs hS hP hD hl hend
    rw [sx_run] at h
    cases hd : decode y.2.1 pc with
    | error er => simp only [hd] at h; cases h
    | ok q =>
      obtain ⟨i, len⟩ := q
      simp only [hd] at h
      unfold sx_one at h
      split at h
      · rename_i d lo hi offs x st'
        cases ht : sx_tab pc d lo hi offs x with
        | none => simp only [ht] at h; cases h
        | some t =>
          simp only [ht] at h
          exact sx_tab_ok hx hb hd ht (ih y t L st' A Z r A' Z' h p e R s m args below meth c H locs cells slots ls Zf hx hb hml hown hts hcx hR hcs hS hP hD hl hend)
      · split at h
        · rename_i hlen
          subst hlen
          unfold sx_step at h
          cases h1 : sx_stk y.2.2.2.2.1 i st with
          | some st' =>
            simp only [h1] at h
            exact sx_stk_ok hx hb hown hts (sx_str_ok hcx.2.2.2.2.2.2.2.1) hd h1 (ih y _ L st' A Z r A' Z' h p e R s m args below meth c H locs cells slots ls Zf hx hb hml hown hts hcx hR hcs hS hP hD hl hend)
          | none =>
            simp only [h1] at h
            cases h2 : sx_loc y.2.2.2.2.2.2.2 y.2.2.1 L i st with
            | some q =>
              obtain ⟨L', st'⟩ := q
              simp only [h2] at h
              exact sx_loc_ok hF hx hb hl hd h2 (fun ls' hl' => ih y _ L' st' A Z r A' Z' h p e R s m args below meth c H locs cells slots ls' Zf hx hb hml hown hts hcx hR hcs hS hP hD hl' hend)
            | none =>
              simp only [h2] at h
              cases h3 : sx_br pc i st with
              | some q =>
                obtain ⟨pc', st'⟩ := q
                simp only [h3] at h
                exact sx_br_ok hx hb hd h3 (ih y pc' L st' A Z r A' Z' h p e R s m args below meth c H locs cells slots ls Zf hx hb hml hown hts hcx hR hcs hS hP hD hl hend)
              | none =>
                simp only [h3] at h
                cases h4 : sx_mem G y A Z i st with
                | some q =>
                  obtain ⟨st', A1, Z1⟩ := q
                  simp only [h4] at h
                  exact sx_mem_ok hx hb (hml.trans hl.1.symm) hown hts hcx hR hcs hS hP hD hd h4 (fun H1 locs1 hP1 hD1 hS1 => ih y _ L st' A1 Z1 r A' Z' h p e R s m args below meth c H1 locs1 cells slots ls Zf hx hb hml hown hts hcx hR hcs hS1 hP1 hD1 hl hend)
                | none =>
                  simp only [h4] at h
                  cases h5 : sx_inv y i st with
                  | some q =>
                    obtain ⟨y', as, rs⟩ := q
                    simp only [h5] at h
                    cases h6 : (sx_eok y' as && sx_rok i as y') with
                    | false => simp only [h6] at h; cases h
                    | true =>
                      simp only [h6] at h
                      cases h7 : sx_run G n y' 0 (sx_ent y' as) [] A Z with
                      | none => simp only [h7] at h; cases h
                      | some q =>
                        obtain ⟨r1, A1, Z1⟩ := q
                        simp only [h7] at h
                        exact sx_inv_ok hF ih hx hb hml hl.1 hown hts hcx hR hcs hS hP hD hd h5 h6 h7 (fun H1 locs1 hP1 hS1 => ih y _ L (r1 ++ rs) A1 Z1 r A' Z' h p e R s m args below meth c H1 locs1 cells slots ls Zf hx hb hml hown hts hcx hR hcs hS1 hP1 (sx_D_any hD) hl hend)
                  | none =>
                    simp only [h5] at h
                    cases h6 : sx_ret y i st with
                    | none => simp only [h6] at h; cases h
                    | some r0 =>
                      simp only [h6] at h
                      cases h
                      obtain ⟨rfl, hln⟩ := sx_ret_r h6
                      exact hend H locs ls pc i (by rw [hd, hln]) h6 hP hS
        · cases h
