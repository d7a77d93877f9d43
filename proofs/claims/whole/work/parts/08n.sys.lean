/-! Steps. -/
def tw_boc (g : Bool) : Int32 → tw_S → Option tw_R := fun x2 σ2 => if (0 : Int32) ≤ x2 then (if tw_out x2 128 then none else (if (17 : Int32) ≤ ((σ2 g 1 x2.toNatClampNeg) &&& (31 : Int32)) then (tw_br (g_Gu_doSystem g (σ2 g 1 x2.toNatClampNeg) σ2) (fun o3 σ3 => some (some (.inr (false, o3)), σ3))) else (tw_br (g_Gu_doOrdinary g (σ2 g 1 x2.toNatClampNeg) σ2) (fun o4 σ4 => some (some (.inr (false, o4)), σ4))))) else (tw_br (g_Gu_fault g (-x2) (σ2 g 0 6) σ2) (fun o5 σ5 => some (some (.inr (false, o5)), σ5)))
def tw_bom_0 (both : Int32) : Int32 → tw_S → Option tw_R := fun x2 σ2 => if (0 : Int32) ≤ x2 then (if tw_out (((128 : Int32) * (0 : Int32)) + x2) 256 then none else (if ((σ2 false 23 (((128 : Int32) * (0 : Int32)) + x2).toNatClampNeg) &&& (31 : Int32)) < (17 : Int32) then (if tw_out (((8 : Int32) * (0 : Int32)) + (((σ2 false 23 (((128 : Int32) * (0 : Int32)) + x2).toNatClampNeg) >>> ((8 : Int32) &&& 31)) &&& (7 : Int32))) 16 then none else (if tw_out (((8 : Int32) * (0 : Int32)) + (((σ2 false 23 (((128 : Int32) * (0 : Int32)) + x2).toNatClampNeg) >>> ((11 : Int32) &&& 31)) &&& (7 : Int32))) 16 then none else (if (10 : Int32) ≤ ((σ2 false 23 (((128 : Int32) * (0 : Int32)) + x2).toNatClampNeg) &&& (31 : Int32)) then (if (12 : Int32) ≤ ((σ2 false 23 (((128 : Int32) * (0 : Int32)) + x2).toNatClampNeg) &&& (31 : Int32)) then (if (15 : Int32) ≤ ((σ2 false 23 (((128 : Int32) * (0 : Int32)) + x2).toNatClampNeg) &&& (31 : Int32)) then (tw_bv (g_Mo_put_0 (((σ2 false 23 (((128 : Int32) * (0 : Int32)) + x2).toNatClampNeg) >>> ((5 : Int32) &&& 31)) &&& (7 : Int32)) ((σ2 false 26 0) + (1 : Int32)) σ2) (fun σ3 => if ((σ2 false 23 (((128 : Int32) * (0 : Int32)) + x2).toNatClampNeg) &&& (31 : Int32)) = (15 : Int32) then (some (some (.inl (1 : Int32)), (tw_pt (tw_pt σ3 false 25 10 ((σ3 false 25 10) + (1 : Int32))) false 26 0 ((σ3 false 26 0) + ((σ2 false 23 (((128 : Int32) * (0 : Int32)) + x2).toNatClampNeg) >>> ((16 : Int32) &&& 31)))))) else (some (some (.inl (1 : Int32)), (tw_pt (tw_pt σ3 false 25 10 ((σ3 false 25 10) + (1 : Int32))) false 26 0 ((σ2 false 24 (((8 : Int32) * (0 : Int32)) + (((σ2 false 23 (((128 : Int32) * (0 : Int32)) + x2).toNatClampNeg) >>> ((8 : Int32) &&& 31)) &&& (7 : Int32))).toNatClampNeg) + ((σ2 false 23 (((128 : Int32) * (0 : Int32)) + x2).toNatClampNeg) >>> ((16 : Int32) &&& 31)))))))) else (if ((σ2 false 23 (((128 : Int32) * (0 : Int32)) + x2).toNatClampNeg) &&& (31 : Int32)) = (12 : Int32) then (if (σ2 false 24 (((8 : Int32) * (0 : Int32)) + (((σ2 false 23 (((128 : Int32) * (0 : Int32)) + x2).toNatClampNeg) >>> ((8 : Int32) &&& 31)) &&& (7 : Int32))).toNatClampNeg) = (σ2 false 24 (((8 : Int32) * (0 : Int32)) + (((σ2 false 23 (((128 : Int32) * (0 : Int32)) + x2).toNatClampNeg) >>> ((11 : Int32) &&& 31)) &&& (7 : Int32))).toNatClampNeg) then (some (some (.inl (1 : Int32)), (tw_pt (tw_pt σ2 false 25 10 ((σ2 false 25 10) + (1 : Int32))) false 26 0 ((σ2 false 26 0) + ((σ2 false 23 (((128 : Int32) * (0 : Int32)) + x2).toNatClampNeg) >>> ((16 : Int32) &&& 31)))))) else (some (some (.inl (1 : Int32)), (tw_pt (tw_pt σ2 false 25 10 ((σ2 false 25 10) + (1 : Int32))) false 26 0 ((σ2 false 26 0) + (1 : Int32)))))) else (if ((σ2 false 23 (((128 : Int32) * (0 : Int32)) + x2).toNatClampNeg) &&& (31 : Int32)) = (13 : Int32) then (if (σ2 false 24 (((8 : Int32) * (0 : Int32)) + (((σ2 false 23 (((128 : Int32) * (0 : Int32)) + x2).toNatClampNeg) >>> ((8 : Int32) &&& 31)) &&& (7 : Int32))).toNatClampNeg) = (σ2 false 24 (((8 : Int32) * (0 : Int32)) + (((σ2 false 23 (((128 : Int32) * (0 : Int32)) + x2).toNatClampNeg) >>> ((11 : Int32) &&& 31)) &&& (7 : Int32))).toNatClampNeg) then (some (some (.inl (1 : Int32)), (tw_pt (tw_pt σ2 false 25 10 ((σ2 false 25 10) + (1 : Int32))) false 26 0 ((σ2 false 26 0) + (1 : Int32))))) else (some (some (.inl (1 : Int32)), (tw_pt (tw_pt σ2 false 25 10 ((σ2 false 25 10) + (1 : Int32))) false 26 0 ((σ2 false 26 0) + ((σ2 false 23 (((128 : Int32) * (0 : Int32)) + x2).toNatClampNeg) >>> ((16 : Int32) &&& 31))))))) else (if (σ2 false 24 (((8 : Int32) * (0 : Int32)) + (((σ2 false 23 (((128 : Int32) * (0 : Int32)) + x2).toNatClampNeg) >>> ((11 : Int32) &&& 31)) &&& (7 : Int32))).toNatClampNeg) ≤ (σ2 false 24 (((8 : Int32) * (0 : Int32)) + (((σ2 false 23 (((128 : Int32) * (0 : Int32)) + x2).toNatClampNeg) >>> ((8 : Int32) &&& 31)) &&& (7 : Int32))).toNatClampNeg) then (some (some (.inl (1 : Int32)), (tw_pt (tw_pt σ2 false 25 10 ((σ2 false 25 10) + (1 : Int32))) false 26 0 ((σ2 false 26 0) + (1 : Int32))))) else (some (some (.inl (1 : Int32)), (tw_pt (tw_pt σ2 false 25 10 ((σ2 false 25 10) + (1 : Int32))) false 26 0 ((σ2 false 26 0) + ((σ2 false 23 (((128 : Int32) * (0 : Int32)) + x2).toNatClampNeg) >>> ((16 : Int32) &&& 31)))))))))) else (if ((σ2 false 23 (((128 : Int32) * (0 : Int32)) + x2).toNatClampNeg) &&& (31 : Int32)) = (10 : Int32) then (tw_bi (g_Mo_data_0_10 (((σ2 false 23 (((128 : Int32) * (0 : Int32)) + x2).toNatClampNeg) >>> ((5 : Int32) &&& 31)) &&& (7 : Int32)) ((σ2 false 24 (((8 : Int32) * (0 : Int32)) + (((σ2 false 23 (((128 : Int32) * (0 : Int32)) + x2).toNatClampNeg) >>> ((8 : Int32) &&& 31)) &&& (7 : Int32))).toNatClampNeg) + ((σ2 false 23 (((128 : Int32) * (0 : Int32)) + x2).toNatClampNeg) >>> ((16 : Int32) &&& 31))) (σ2 false 24 (((8 : Int32) * (0 : Int32)) + (((σ2 false 23 (((128 : Int32) * (0 : Int32)) + x2).toNatClampNeg) >>> ((11 : Int32) &&& 31)) &&& (7 : Int32))).toNatClampNeg) σ2) (fun x12 σ12 => some (some (.inl x12), σ12))) else (if ((σ2 false 23 (((128 : Int32) * (0 : Int32)) + x2).toNatClampNeg) &&& (31 : Int32)) = (11 : Int32) then (tw_bi (g_Mo_data_0_11 (((σ2 false 23 (((128 : Int32) * (0 : Int32)) + x2).toNatClampNeg) >>> ((5 : Int32) &&& 31)) &&& (7 : Int32)) ((σ2 false 24 (((8 : Int32) * (0 : Int32)) + (((σ2 false 23 (((128 : Int32) * (0 : Int32)) + x2).toNatClampNeg) >>> ((8 : Int32) &&& 31)) &&& (7 : Int32))).toNatClampNeg) + ((σ2 false 23 (((128 : Int32) * (0 : Int32)) + x2).toNatClampNeg) >>> ((16 : Int32) &&& 31))) (σ2 false 24 (((8 : Int32) * (0 : Int32)) + (((σ2 false 23 (((128 : Int32) * (0 : Int32)) + x2).toNatClampNeg) >>> ((11 : Int32) &&& 31)) &&& (7 : Int32))).toNatClampNeg) σ2) (fun x13 σ13 => some (some (.inl x13), σ13))) else none))) else (tw_bi (g_Mo_calculate ((σ2 false 23 (((128 : Int32) * (0 : Int32)) + x2).toNatClampNeg) &&& (31 : Int32)) (σ2 false 24 (((8 : Int32) * (0 : Int32)) + (((σ2 false 23 (((128 : Int32) * (0 : Int32)) + x2).toNatClampNeg) >>> ((8 : Int32) &&& 31)) &&& (7 : Int32))).toNatClampNeg) (σ2 false 24 (((8 : Int32) * (0 : Int32)) + (((σ2 false 23 (((128 : Int32) * (0 : Int32)) + x2).toNatClampNeg) >>> ((11 : Int32) &&& 31)) &&& (7 : Int32))).toNatClampNeg) ((σ2 false 23 (((128 : Int32) * (0 : Int32)) + x2).toNatClampNeg) >>> ((16 : Int32) &&& 31)) σ2) (fun x14 σ14 => tw_bv (g_Mo_put_0 (((σ2 false 23 (((128 : Int32) * (0 : Int32)) + x2).toNatClampNeg) >>> ((5 : Int32) &&& 31)) &&& (7 : Int32)) x14 σ14) (fun σ15 => some (some (.inl (1 : Int32)), (tw_pt (tw_pt σ15 false 25 10 ((σ15 false 25 10) + (1 : Int32))) false 26 0 ((σ15 false 26 0) + (1 : Int32)))))))))) else (tw_bi (g_Mo_special_0 (σ2 false 23 (((128 : Int32) * (0 : Int32)) + x2).toNatClampNeg) ((σ2 false 23 (((128 : Int32) * (0 : Int32)) + x2).toNatClampNeg) &&& (31 : Int32)) both (tw_pt σ2 false 31 0 ((σ2 false 31 0) + (1 : Int32)))) (fun x18 σ18 => some (some (.inl x18), σ18))))) else (some (some (.inl (0 : Int32)), σ2))
theorem tw_m_step_0 (σ : tw_S) : g_Mo_step_0 σ = tw_bi (g_Mo_pending_0 σ) (fun x1 σ1 => if ((σ false 25 7) &&& x1) = (0 : Int32) then (tw_bi (g_Mo_access_0_0 (σ1 false 26 0) σ1) (tw_bom_0 ((σ false 25 7) &&& x1))) else (if (σ1 false 27 0) = (0 : Int32) then (if ((σ1 false 25 0) &&& (1 : Int32)) = (0 : Int32) then (tw_bi (g_Mo_access_0_0 (σ1 false 26 0) σ1) (tw_bom_0 ((σ false 25 7) &&& x1))) else (if (((σ false 25 7) &&& x1) &&& (2 : Int32)) = (0 : Int32) then (tw_bv (g_Mo_trap_0_m2147483643 (0 : Int32) (tw_pt σ1 false 31 6 ((σ1 false 31 6) + (1 : Int32)))) (fun σ2 => some (some (.inl (0 : Int32)), σ2))) else (tw_bv (g_Mo_trap_0_m2147483639 (0 : Int32) (tw_pt σ1 false 31 6 ((σ1 false 31 6) + (1 : Int32)))) (fun σ2 => some (some (.inl (0 : Int32)), σ2))))) else (if (((σ false 25 7) &&& x1) &&& (2 : Int32)) = (0 : Int32) then (tw_bv (g_Mo_trap_0_m2147483643 (0 : Int32) (tw_pt σ1 false 31 6 ((σ1 false 31 6) + (1 : Int32)))) (fun σ2 => some (some (.inl (0 : Int32)), σ2))) else (tw_bv (g_Mo_trap_0_m2147483639 (0 : Int32) (tw_pt σ1 false 31 6 ((σ1 false 31 6) + (1 : Int32)))) (fun σ2 => some (some (.inl (0 : Int32)), σ2)))))) := rfl
def tw_bom_1 (both : Int32) : Int32 → tw_S → Option tw_R := fun x2 σ2 => if (0 : Int32) ≤ x2 then (if tw_out (((128 : Int32) * (1 : Int32)) + x2) 256 then none else (if ((σ2 false 23 (((128 : Int32) * (1 : Int32)) + x2).toNatClampNeg) &&& (31 : Int32)) < (17 : Int32) then (if tw_out (((8 : Int32) * (1 : Int32)) + (((σ2 false 23 (((128 : Int32) * (1 : Int32)) + x2).toNatClampNeg) >>> ((8 : Int32) &&& 31)) &&& (7 : Int32))) 16 then none else (if tw_out (((8 : Int32) * (1 : Int32)) + (((σ2 false 23 (((128 : Int32) * (1 : Int32)) + x2).toNatClampNeg) >>> ((11 : Int32) &&& 31)) &&& (7 : Int32))) 16 then none else (if (10 : Int32) ≤ ((σ2 false 23 (((128 : Int32) * (1 : Int32)) + x2).toNatClampNeg) &&& (31 : Int32)) then (if (12 : Int32) ≤ ((σ2 false 23 (((128 : Int32) * (1 : Int32)) + x2).toNatClampNeg) &&& (31 : Int32)) then (if (15 : Int32) ≤ ((σ2 false 23 (((128 : Int32) * (1 : Int32)) + x2).toNatClampNeg) &&& (31 : Int32)) then (tw_bv (g_Mo_put_1 (((σ2 false 23 (((128 : Int32) * (1 : Int32)) + x2).toNatClampNeg) >>> ((5 : Int32) &&& 31)) &&& (7 : Int32)) ((σ2 false 26 1) + (1 : Int32)) σ2) (fun σ3 => if ((σ2 false 23 (((128 : Int32) * (1 : Int32)) + x2).toNatClampNeg) &&& (31 : Int32)) = (15 : Int32) then (some (some (.inl (1 : Int32)), (tw_pt (tw_pt σ3 false 25 22 ((σ3 false 25 22) + (1 : Int32))) false 26 1 ((σ3 false 26 1) + ((σ2 false 23 (((128 : Int32) * (1 : Int32)) + x2).toNatClampNeg) >>> ((16 : Int32) &&& 31)))))) else (some (some (.inl (1 : Int32)), (tw_pt (tw_pt σ3 false 25 22 ((σ3 false 25 22) + (1 : Int32))) false 26 1 ((σ2 false 24 (((8 : Int32) * (1 : Int32)) + (((σ2 false 23 (((128 : Int32) * (1 : Int32)) + x2).toNatClampNeg) >>> ((8 : Int32) &&& 31)) &&& (7 : Int32))).toNatClampNeg) + ((σ2 false 23 (((128 : Int32) * (1 : Int32)) + x2).toNatClampNeg) >>> ((16 : Int32) &&& 31)))))))) else (if ((σ2 false 23 (((128 : Int32) * (1 : Int32)) + x2).toNatClampNeg) &&& (31 : Int32)) = (12 : Int32) then (if (σ2 false 24 (((8 : Int32) * (1 : Int32)) + (((σ2 false 23 (((128 : Int32) * (1 : Int32)) + x2).toNatClampNeg) >>> ((8 : Int32) &&& 31)) &&& (7 : Int32))).toNatClampNeg) = (σ2 false 24 (((8 : Int32) * (1 : Int32)) + (((σ2 false 23 (((128 : Int32) * (1 : Int32)) + x2).toNatClampNeg) >>> ((11 : Int32) &&& 31)) &&& (7 : Int32))).toNatClampNeg) then (some (some (.inl (1 : Int32)), (tw_pt (tw_pt σ2 false 25 22 ((σ2 false 25 22) + (1 : Int32))) false 26 1 ((σ2 false 26 1) + ((σ2 false 23 (((128 : Int32) * (1 : Int32)) + x2).toNatClampNeg) >>> ((16 : Int32) &&& 31)))))) else (some (some (.inl (1 : Int32)), (tw_pt (tw_pt σ2 false 25 22 ((σ2 false 25 22) + (1 : Int32))) false 26 1 ((σ2 false 26 1) + (1 : Int32)))))) else (if ((σ2 false 23 (((128 : Int32) * (1 : Int32)) + x2).toNatClampNeg) &&& (31 : Int32)) = (13 : Int32) then (if (σ2 false 24 (((8 : Int32) * (1 : Int32)) + (((σ2 false 23 (((128 : Int32) * (1 : Int32)) + x2).toNatClampNeg) >>> ((8 : Int32) &&& 31)) &&& (7 : Int32))).toNatClampNeg) = (σ2 false 24 (((8 : Int32) * (1 : Int32)) + (((σ2 false 23 (((128 : Int32) * (1 : Int32)) + x2).toNatClampNeg) >>> ((11 : Int32) &&& 31)) &&& (7 : Int32))).toNatClampNeg) then (some (some (.inl (1 : Int32)), (tw_pt (tw_pt σ2 false 25 22 ((σ2 false 25 22) + (1 : Int32))) false 26 1 ((σ2 false 26 1) + (1 : Int32))))) else (some (some (.inl (1 : Int32)), (tw_pt (tw_pt σ2 false 25 22 ((σ2 false 25 22) + (1 : Int32))) false 26 1 ((σ2 false 26 1) + ((σ2 false 23 (((128 : Int32) * (1 : Int32)) + x2).toNatClampNeg) >>> ((16 : Int32) &&& 31))))))) else (if (σ2 false 24 (((8 : Int32) * (1 : Int32)) + (((σ2 false 23 (((128 : Int32) * (1 : Int32)) + x2).toNatClampNeg) >>> ((11 : Int32) &&& 31)) &&& (7 : Int32))).toNatClampNeg) ≤ (σ2 false 24 (((8 : Int32) * (1 : Int32)) + (((σ2 false 23 (((128 : Int32) * (1 : Int32)) + x2).toNatClampNeg) >>> ((8 : Int32) &&& 31)) &&& (7 : Int32))).toNatClampNeg) then (some (some (.inl (1 : Int32)), (tw_pt (tw_pt σ2 false 25 22 ((σ2 false 25 22) + (1 : Int32))) false 26 1 ((σ2 false 26 1) + (1 : Int32))))) else (some (some (.inl (1 : Int32)), (tw_pt (tw_pt σ2 false 25 22 ((σ2 false 25 22) + (1 : Int32))) false 26 1 ((σ2 false 26 1) + ((σ2 false 23 (((128 : Int32) * (1 : Int32)) + x2).toNatClampNeg) >>> ((16 : Int32) &&& 31)))))))))) else (if ((σ2 false 23 (((128 : Int32) * (1 : Int32)) + x2).toNatClampNeg) &&& (31 : Int32)) = (10 : Int32) then (tw_bi (g_Mo_data_1_10 (((σ2 false 23 (((128 : Int32) * (1 : Int32)) + x2).toNatClampNeg) >>> ((5 : Int32) &&& 31)) &&& (7 : Int32)) ((σ2 false 24 (((8 : Int32) * (1 : Int32)) + (((σ2 false 23 (((128 : Int32) * (1 : Int32)) + x2).toNatClampNeg) >>> ((8 : Int32) &&& 31)) &&& (7 : Int32))).toNatClampNeg) + ((σ2 false 23 (((128 : Int32) * (1 : Int32)) + x2).toNatClampNeg) >>> ((16 : Int32) &&& 31))) (σ2 false 24 (((8 : Int32) * (1 : Int32)) + (((σ2 false 23 (((128 : Int32) * (1 : Int32)) + x2).toNatClampNeg) >>> ((11 : Int32) &&& 31)) &&& (7 : Int32))).toNatClampNeg) σ2) (fun x12 σ12 => some (some (.inl x12), σ12))) else (if ((σ2 false 23 (((128 : Int32) * (1 : Int32)) + x2).toNatClampNeg) &&& (31 : Int32)) = (11 : Int32) then (tw_bi (g_Mo_data_1_11 (((σ2 false 23 (((128 : Int32) * (1 : Int32)) + x2).toNatClampNeg) >>> ((5 : Int32) &&& 31)) &&& (7 : Int32)) ((σ2 false 24 (((8 : Int32) * (1 : Int32)) + (((σ2 false 23 (((128 : Int32) * (1 : Int32)) + x2).toNatClampNeg) >>> ((8 : Int32) &&& 31)) &&& (7 : Int32))).toNatClampNeg) + ((σ2 false 23 (((128 : Int32) * (1 : Int32)) + x2).toNatClampNeg) >>> ((16 : Int32) &&& 31))) (σ2 false 24 (((8 : Int32) * (1 : Int32)) + (((σ2 false 23 (((128 : Int32) * (1 : Int32)) + x2).toNatClampNeg) >>> ((11 : Int32) &&& 31)) &&& (7 : Int32))).toNatClampNeg) σ2) (fun x13 σ13 => some (some (.inl x13), σ13))) else none))) else (tw_bi (g_Mo_calculate ((σ2 false 23 (((128 : Int32) * (1 : Int32)) + x2).toNatClampNeg) &&& (31 : Int32)) (σ2 false 24 (((8 : Int32) * (1 : Int32)) + (((σ2 false 23 (((128 : Int32) * (1 : Int32)) + x2).toNatClampNeg) >>> ((8 : Int32) &&& 31)) &&& (7 : Int32))).toNatClampNeg) (σ2 false 24 (((8 : Int32) * (1 : Int32)) + (((σ2 false 23 (((128 : Int32) * (1 : Int32)) + x2).toNatClampNeg) >>> ((11 : Int32) &&& 31)) &&& (7 : Int32))).toNatClampNeg) ((σ2 false 23 (((128 : Int32) * (1 : Int32)) + x2).toNatClampNeg) >>> ((16 : Int32) &&& 31)) σ2) (fun x14 σ14 => tw_bv (g_Mo_put_1 (((σ2 false 23 (((128 : Int32) * (1 : Int32)) + x2).toNatClampNeg) >>> ((5 : Int32) &&& 31)) &&& (7 : Int32)) x14 σ14) (fun σ15 => some (some (.inl (1 : Int32)), (tw_pt (tw_pt σ15 false 25 22 ((σ15 false 25 22) + (1 : Int32))) false 26 1 ((σ15 false 26 1) + (1 : Int32)))))))))) else (tw_bi (g_Mo_special_1 (σ2 false 23 (((128 : Int32) * (1 : Int32)) + x2).toNatClampNeg) ((σ2 false 23 (((128 : Int32) * (1 : Int32)) + x2).toNatClampNeg) &&& (31 : Int32)) both (tw_pt σ2 false 31 9 ((σ2 false 31 9) + (1 : Int32)))) (fun x18 σ18 => some (some (.inl x18), σ18))))) else (some (some (.inl (0 : Int32)), σ2))
theorem tw_m_step_1 (σ : tw_S) : g_Mo_step_1 σ = tw_bi (g_Mo_pending_1 σ) (fun x1 σ1 => if ((σ false 25 19) &&& x1) = (0 : Int32) then (tw_bi (g_Mo_access_1_0 (σ1 false 26 1) σ1) (tw_bom_1 ((σ false 25 19) &&& x1))) else (if (σ1 false 27 1) = (0 : Int32) then (if ((σ1 false 25 12) &&& (1 : Int32)) = (0 : Int32) then (tw_bi (g_Mo_access_1_0 (σ1 false 26 1) σ1) (tw_bom_1 ((σ false 25 19) &&& x1))) else (if (((σ false 25 19) &&& x1) &&& (2 : Int32)) = (0 : Int32) then (tw_bv (g_Mo_trap_1_m2147483643 (0 : Int32) (tw_pt σ1 false 31 15 ((σ1 false 31 15) + (1 : Int32)))) (fun σ2 => some (some (.inl (0 : Int32)), σ2))) else (tw_bv (g_Mo_trap_1_m2147483639 (0 : Int32) (tw_pt σ1 false 31 15 ((σ1 false 31 15) + (1 : Int32)))) (fun σ2 => some (some (.inl (0 : Int32)), σ2))))) else (if (((σ false 25 19) &&& x1) &&& (2 : Int32)) = (0 : Int32) then (tw_bv (g_Mo_trap_1_m2147483643 (0 : Int32) (tw_pt σ1 false 31 15 ((σ1 false 31 15) + (1 : Int32)))) (fun σ2 => some (some (.inl (0 : Int32)), σ2))) else (tw_bv (g_Mo_trap_1_m2147483639 (0 : Int32) (tw_pt σ1 false 31 15 ((σ1 false 31 15) + (1 : Int32)))) (fun σ2 => some (some (.inl (0 : Int32)), σ2)))))) := rfl
theorem tw_c_step (g : Bool) (σ : tw_S) : g_Gu_step g σ = tw_bi (g_Co_dueBits g (tw_pt σ g 3 8 ((σ g 3 8) + (1 : Int32)))) (fun x1 σ1 => if x1 = (0 : Int32) then (tw_bi (g_Gu_reach_F g (σ1 g 0 6) σ1) (tw_boc g)) else (if (σ1 g 0 7) = (0 : Int32) then (tw_bi (g_Co_isOn g (1 : Int32) σ1) (fun x6 σ6 => if x6 = (0 : Int32) then (tw_bi (g_Gu_reach_F g (σ6 g 0 6) σ6) (tw_boc g)) else (if (x1 &&& (2 : Int32)) = (0 : Int32) then (tw_br (g_Gu_trap g (-2147483643 : Int32) (0 : Int32) (tw_pt σ6 g 3 6 ((σ6 g 3 6) + (1 : Int32)))) (fun o11 σ11 => some (some (.inr (false, o11)), σ11))) else (tw_br (g_Gu_trap g (-2147483639 : Int32) (0 : Int32) (tw_pt σ6 g 3 6 ((σ6 g 3 6) + (1 : Int32)))) (fun o12 σ12 => some (some (.inr (false, o12)), σ12)))))) else (if (x1 &&& (2 : Int32)) = (0 : Int32) then (tw_br (g_Gu_trap g (-2147483643 : Int32) (0 : Int32) (tw_pt σ1 g 3 6 ((σ1 g 3 6) + (1 : Int32)))) (fun o13 σ13 => some (some (.inr (false, o13)), σ13))) else (tw_br (g_Gu_trap g (-2147483639 : Int32) (0 : Int32) (tw_pt σ1 g 3 6 ((σ1 g 3 6) + (1 : Int32)))) (fun o14 σ14 => some (some (.inr (false, o14)), σ14)))))) := rfl
theorem tw_shr1 (s : Int32) : (s >>> ((1 : Int32) &&& 31)) &&& 1 = if s &&& 2 = 0 then 0 else 1 := by
  have b1 : ∀ i, i < 32 → bt 1 i = decide (i = 0) := by decide +kernel
  have b2 : ∀ i, i < 32 → bt 2 i = decide (i = 1) := by decide +kernel
  have e : bt (s >>> ((1 : Int32) &&& 31)) 0 = bt s 1 := by
    have := b_sshr 1 (by omega) s (i := 0) (by omega)
    rw [if_pos (by omega)] at this
    exact this
  by_cases h : s &&& 2 = 0
  · rw [if_pos h]
    refine (tw_bit0 (k := 0) (by omega) b1).mpr ?_
    rw [e]
    exact (tw_bit0 (k := 1) (by omega) b2).mp h
  · rw [if_neg h]
    rcases tw_bit1 (s >>> ((1 : Int32) &&& 31)) with z | z
    · refine absurd ((tw_bit0 (k := 1) (by omega) b2).mpr ?_) h
      rw [← e]
      exact (tw_bit0 (k := 0) (by omega) b1).mp z
    · exact z
def tw_lvs (s : Int32) : Int32 := ((s &&& 8) ||| 2) ||| (if s &&& 2 = 0 then 0 else 1)
def tw_lvu (s : Int32) : Int32 := if s &&& 4 = 0 then 1 else 0
theorem tw_c_leave (g : Bool) (σ : tw_S) : g_Co_leaveTrap g σ = some (some (.inl (tw_lvu (σ g 5 0))), tw_pt σ g 5 0 (tw_lvs (σ g 5 0))) := by
  unfold g_Co_leaveTrap tw_lvu tw_lvs
  rw [tw_c_isOn, tw_bi_s]
  by_cases h4 : σ g 5 0 &&& 4 = 0
  · rw [if_pos ((tw_onb_0 g 4 σ).mpr h4), if_pos h4, tw_c_isOn, tw_bi_s]
    by_cases h2 : σ g 5 0 &&& 2 = 0
    · rw [if_pos ((tw_onb_0 g 2 σ).mpr h2), if_pos h2]
    · rw [if_neg (fun z => h2 ((tw_onb_0 g 2 σ).mp z)), if_neg h2]
  · rw [if_neg (fun z => h4 ((tw_onb_0 g 4 σ).mp z)), if_neg h4, tw_c_isOn, tw_bi_s]
    by_cases h2 : σ g 5 0 &&& 2 = 0
    · rw [if_pos ((tw_onb_0 g 2 σ).mpr h2), if_pos h2]
    · rw [if_neg (fun z => h2 ((tw_onb_0 g 2 σ).mp z)), if_neg h2]
theorem tw_lvu_01 (s : Int32) : tw_lvu s = 0 ∨ tw_lvu s = 1 := by
  unfold tw_lvu
  by_cases h : s &&& 4 = 0
  · rw [if_pos h]; exact Or.inr rfl
  · rw [if_neg h]; exact Or.inl rfl
theorem tw_o5 {x : Int32} {o : Nat} (e : x = nI o) (ho : o < 32) (m : Nat) (hm : m < 64) {c : Int32} (hc : c = nI m) : x = c ↔ o = m := by
  rw [e, hc]
  exact nI_eq (by omega) (by omega)
theorem tw_pend_on {σ τ : tw_S} {g : Bool} (h : tw_fr σ τ) : tw_pend τ g = tw_pend σ g ∧ τ g 5 7 = σ g 5 7 := by
  have k5 : ∀ j, τ g 5 j = σ g 5 j := fun j => h g 5 j (Or.inl rfl)
  unfold tw_pend tw_there
  rw [k5 10, k5 9, k5 7, h g 6 2 (Or.inr (Or.inl rfl)), h g 7 0 (Or.inr (Or.inr (Or.inl rfl)))]
  exact ⟨rfl, rfl⟩
theorem tw_p_sys_0 {d : tw_Dt} {σc σm : tw_S} (hR : tw_Rel d σc σm) (hC : ∀ g', tw_Coh σc g') (w both : Int32) {o : Nat} (eo : w &&& 31 = nI o) (ho : o < 32) (h17 : 17 ≤ o) (hb : both = σc false 5 7 &&& tw_pend σc false) : tw_OutP d (g_Gu_doSystem false w σc) (g_Mo_special_0 w (w &&& 31) both (tw_pt σm false 31 0 (σm false 31 0 + 1))) := by
  have hR2 : tw_Rel d (tw_pt σc false 3 0 (σc false 3 0 + 1)) (tw_pt σm false 31 0 (σm false 31 0 + 1)) := by
    have e : σm false 31 0 = σc false 3 0 := tw_Rel_3 hR false (j := 0) (by decide)
    rw [e]
    exact tw_r_cnt hR false (by decide) _
  have hC2 : ∀ g', tw_Coh (tw_pt σc false 3 0 (σc false 3 0 + 1)) g' := fun g' => tw_Coh_pt (hC g') rfl _
  have e7 : tw_pt σm false 31 0 (σm false 31 0 + 1) false 27 0 = tw_pt σc false 3 0 (σc false 3 0 + 1) false 0 7 := tw_Rel_us0 hR2 false
  have n7 : tw_pt σc false 3 0 (σc false 3 0 + 1) false 0 7 = σc false 0 7 := tw_pt_n _ _ (fun z => absurd z.2.1 (by decide))
  have hdue : g_Co_dueBits false (tw_pt σc false 3 0 (σc false 3 0 + 1)) = some (some (.inl both), tw_pt σc false 3 0 (σc false 3 0 + 1)) := by
    have := tw_pend_on (σ := σc) (τ := tw_pt σc false 3 0 (σc false 3 0 + 1)) (g := false) (fun g' c j hc => tw_pt_n _ _ (fun z => by omega))
    rw [tw_c_due, this.1, this.2, hb]
  unfold g_Gu_doSystem g_Mo_special_0
  rw [e7, n7]
  generalize tw_pt σc false 3 0 (σc false 3 0 + 1) = sc at hR2 hC2 hdue ⊢
  generalize tw_pt σm false 31 0 (σm false 31 0 + 1) = sm at hR2 ⊢
  have T : ∀ c m : Nat, m < 64 → ∀ {x : Int32}, x = nI m → (w &&& 31 = x ↔ o = m) := fun _ m hm x hx => tw_o5 eo ho m hm hx
  have t17 := T 0 17 (by decide) (x := 17) rfl
  have t18 := T 0 18 (by decide) (x := 18) rfl
  have t22 := T 0 22 (by decide) (x := 22) rfl
  have t23 := T 0 23 (by decide) (x := 23) rfl
  have t24 := T 0 24 (by decide) (x := 24) rfl
  have l24 : (24 : Int32) < w &&& 31 ↔ 24 < o := by rw [eo]; exact nI_ltI (a := 24) (by decide) (by omega)
  have l24' : w &&& 31 ≤ 24 ↔ o ≤ 24 := by rw [eo]; exact nI_leI (b := 24) (by omega) (by decide)
  have l22 : (22 : Int32) ≤ w &&& 31 ↔ 22 ≤ o := by rw [eo]; exact nI_leI (a := 22) (by decide) (by omega)
  by_cases o17 : o = 17
  · rw [if_pos (t17.mpr o17), if_pos (t17.mpr o17), if_neg (fun z => absurd (t18.mp z) (by omega))]
    by_cases hu : σc false 0 7 = 0
    · rw [if_pos hu, if_pos hu, tw_c_trap, tw_m_trap_0_9]
      exact tw_o_trap hR2 hC2 false 9 0
    · rw [if_neg hu, if_neg hu, tw_c_trap, tw_m_trap_0_8]
      exact tw_o_trap hR2 hC2 false 8 0
  · rw [if_neg (fun z => o17 (t17.mp z)), if_neg (fun z => o17 (t17.mp z))]
    by_cases o18 : o = 18
    · rw [if_pos (t18.mpr o18), if_pos (t18.mpr o18), tw_c_trap, tw_m_trap_0_3]
      exact tw_o_trap hR2 hC2 false 3 0
    · rw [if_neg (fun z => o18 (t18.mp z)), if_neg (fun z => o18 (t18.mp z))]
      by_cases big : 24 < o
      · rw [if_pos (l24.mpr big), if_neg (fun z => absurd (l24'.mp z) (by omega)), tw_m_ill_0, tw_c_ill_0, ite_self]
        exact tw_o_trap hR2 hC2 false 2 w
      · rw [if_neg (fun z => big (l24.mp z)), if_pos (l24'.mpr (by omega))]
        by_cases hu : σc false 0 7 = 0
        · rw [if_pos hu, if_pos hu]
          by_cases o22 : o = 22
          · rw [if_pos (t22.mpr o22), if_pos (l22.mpr (by omega)), if_pos (t22.mpr o22), tw_c_leave, tw_bi_s, if_pos (tw_lvu_01 _)]
            have e50 : sm false 25 0 = sc false 5 0 := tw_Rel_5 hR2 false (j := 0) (by decide)
            have e52 : sm false 25 2 = sc false 5 2 := tw_Rel_5 hR2 false (j := 2) (by decide)
            have n52 : tw_pt sc false 5 0 (tw_lvs (sc false 5 0)) false 5 2 = sc false 5 2 := tw_pt_n _ _ (fun z => absurd z.2.2 (by decide))
            have hR3 := tw_Rel_us (tw_r_ctl hR2 false (j := 0) (by decide) (tw_lvs (sc false 5 0))) false (tw_lvu_01 (sc false 5 0))
            have hC3 : ∀ g', tw_Coh (tw_pt (tw_pt sc false 5 0 (tw_lvs (sc false 5 0))) false 0 7 (tw_lvu (sc false 5 0))) g' := fun g' => tw_Coh_pt (tw_Coh_pt (hC2 g') rfl _) rfl _
            have key : ∀ u : Int32, u = tw_lvu (sc false 5 0) → tw_OutP d (some (some (.inr (false, 60)), tw_pt (tw_pt (tw_pt (tw_pt sc false 5 0 (tw_lvs (sc false 5 0))) false 0 7 (tw_lvu (sc false 5 0))) false 5 10 ((tw_pt (tw_pt sc false 5 0 (tw_lvs (sc false 5 0))) false 0 7 (tw_lvu (sc false 5 0))) false 5 10 + 1)) false 0 6 (sc false 5 2))) (some (some (.inl (1 : Int32)), (tw_pt (tw_pt (tw_pt (tw_pt sm false 27 0 u) false 25 0 ((((sc false 5 0) &&& (8 : Int32)) ||| (2 : Int32)) ||| (((sc false 5 0) >>> ((1 : Int32) &&& 31)) &&& (1 : Int32)))) false 25 10 ((sm false 25 10) + (1 : Int32))) false 26 0 (sc false 5 2)))) := by
              intro u hu2
              rw [hu2, tw_shr1]
              have ec : tw_pt (tw_pt sm false 27 0 (tw_lvu (sc false 5 0))) false 25 0 (tw_lvs (sc false 5 0)) = tw_pt (tw_pt sm false 25 (12 * tw_b false + 0) (tw_lvs (sc false 5 0))) false 27 (tw_b false) (tw_lvu (sc false 5 0)) := tw_pt_comm _ _ _ (fun z => absurd z.2.1 (by decide))
              show tw_OutP d _ (some (some (.inl (1 : Int32)), (tw_pt (tw_pt (tw_pt (tw_pt sm false 27 0 (tw_lvu (sc false 5 0))) false 25 0 (tw_lvs (sc false 5 0))) false 25 10 ((sm false 25 10) + (1 : Int32))) false 26 0 (sc false 5 2))))
              rw [ec]
              exact tw_o_ret hR3 hC3 false rfl
            rw [n52, e50, e52]
            by_cases h4 : sc false 5 0 &&& 4 = 0
            · rw [if_pos h4]
              exact tw_o_hand (key 1 (by unfold tw_lvu; rw [if_pos h4]))
            · rw [if_neg h4]
              exact tw_o_hand (key 0 (by unfold tw_lvu; rw [if_neg h4]))
          · rw [if_neg (fun z => o22 (t22.mp z))]
            by_cases o23 : o = 23
            · rw [if_pos (t23.mpr o23), if_pos (l22.mpr (by omega)), if_neg (fun z => o22 (t22.mp z)), if_pos (t23.mpr o23), tw_c_flush, tw_bv_s, tw_m_flush_0, tw_bv_s, if_neg (fun z => absurd (t24.mp z) (by omega))]
              have hR3 : tw_Rel d (tw_pt (tw_clrI 10 0 16 false sc) false 3 5 (sc false 3 5 + 1)) (tw_pt (tw_clrI 32 0 16 false sm) false 31 5 (sm false 31 5 + 1)) := by
                have e : sm false 31 5 = sc false 3 5 := tw_Rel_3 hR2 false (j := 5) (by decide)
                rw [e]
                exact tw_r_cnt (tw_r_clr hR2 false) false (by decide) _
              exact tw_o_ret hR3 (fun g' => tw_Coh_pt (tw_clr_coh2 (hC2 g')) rfl _) false (by rw [← tw_Rel_pc hR3 false]; rfl)
            · rw [if_neg (fun z => o23 (t23.mp z))]
              by_cases o24 : o = 24
              · rw [if_pos (t24.mpr o24), if_pos (l22.mpr (by omega)), if_neg (fun z => o22 (t22.mp z)), if_neg (fun z => o23 (t23.mp z)), if_pos (t24.mpr o24), hdue, tw_bi_s]
                by_cases hz : both = 0
                · rw [if_pos hz, if_pos hz]
                  exact ⟨62, 2, sc, sm, rfl, rfl, Or.inr (Or.inr ⟨rfl, rfl⟩), hR2, hC2⟩
                · rw [if_neg hz, if_neg hz]
                  exact tw_o_ret hR2 hC2 false (by rw [← tw_Rel_pc hR2 false]; rfl)
              · rw [if_neg (fun z => o24 (t24.mp z)), if_neg (fun z => absurd (l22.mp z) (by omega))]
                have hop : w &&& 31 = 19 ∨ w &&& 31 = 20 ∨ w &&& 31 = 21 := by
                  have : o = 19 ∨ o = 20 ∨ o = 21 := by omega
                  rcases this with z | z | z
                  · exact Or.inl (by rw [eo, z]; rfl)
                  · exact Or.inr (Or.inl (by rw [eo, z]; rfl))
                  · exact Or.inr (Or.inr (by rw [eo, z]; rfl))
                exact tw_o_hand (tw_o_handm (tw_p_cc_0 hR2 hC2 w hop))
        · rw [if_neg hu, if_neg hu, tw_m_ill_0, tw_c_ill_0]
          exact tw_o_trap hR2 hC2 false 2 w
theorem tw_p_sys_1 {d : tw_Dt} {σc σm : tw_S} (hR : tw_Rel d σc σm) (hC : ∀ g', tw_Coh σc g') (w both : Int32) {o : Nat} (eo : w &&& 31 = nI o) (ho : o < 32) (h17 : 17 ≤ o) (hb : both = σc true 5 7 &&& tw_pend σc true) : tw_OutP d (g_Gu_doSystem true w σc) (g_Mo_special_1 w (w &&& 31) both (tw_pt σm false 31 9 (σm false 31 9 + 1))) := by
  have hR2 : tw_Rel d (tw_pt σc true 3 0 (σc true 3 0 + 1)) (tw_pt σm false 31 9 (σm false 31 9 + 1)) := by
    have e : σm false 31 9 = σc true 3 0 := tw_Rel_3 hR true (j := 0) (by decide)
    rw [e]
    exact tw_r_cnt hR true (by decide) _
  have hC2 : ∀ g', tw_Coh (tw_pt σc true 3 0 (σc true 3 0 + 1)) g' := fun g' => tw_Coh_pt (hC g') rfl _
  have e7 : tw_pt σm false 31 9 (σm false 31 9 + 1) false 27 1 = tw_pt σc true 3 0 (σc true 3 0 + 1) true 0 7 := tw_Rel_us0 hR2 true
  have n7 : tw_pt σc true 3 0 (σc true 3 0 + 1) true 0 7 = σc true 0 7 := tw_pt_n _ _ (fun z => absurd z.2.1 (by decide))
  have hdue : g_Co_dueBits true (tw_pt σc true 3 0 (σc true 3 0 + 1)) = some (some (.inl both), tw_pt σc true 3 0 (σc true 3 0 + 1)) := by
    have := tw_pend_on (σ := σc) (τ := tw_pt σc true 3 0 (σc true 3 0 + 1)) (g := true) (fun g' c j hc => tw_pt_n _ _ (fun z => by omega))
    rw [tw_c_due, this.1, this.2, hb]
  unfold g_Gu_doSystem g_Mo_special_1
  rw [e7, n7]
  generalize tw_pt σc true 3 0 (σc true 3 0 + 1) = sc at hR2 hC2 hdue ⊢
  generalize tw_pt σm false 31 9 (σm false 31 9 + 1) = sm at hR2 ⊢
  have T : ∀ c m : Nat, m < 64 → ∀ {x : Int32}, x = nI m → (w &&& 31 = x ↔ o = m) := fun _ m hm x hx => tw_o5 eo ho m hm hx
  have t17 := T 0 17 (by decide) (x := 17) rfl
  have t18 := T 0 18 (by decide) (x := 18) rfl
  have t22 := T 0 22 (by decide) (x := 22) rfl
  have t23 := T 0 23 (by decide) (x := 23) rfl
  have t24 := T 0 24 (by decide) (x := 24) rfl
  have l24 : (24 : Int32) < w &&& 31 ↔ 24 < o := by rw [eo]; exact nI_ltI (a := 24) (by decide) (by omega)
  have l24' : w &&& 31 ≤ 24 ↔ o ≤ 24 := by rw [eo]; exact nI_leI (b := 24) (by omega) (by decide)
  have l22 : (22 : Int32) ≤ w &&& 31 ↔ 22 ≤ o := by rw [eo]; exact nI_leI (a := 22) (by decide) (by omega)
  by_cases o17 : o = 17
  · rw [if_pos (t17.mpr o17), if_pos (t17.mpr o17), if_neg (fun z => absurd (t18.mp z) (by omega))]
    by_cases hu : σc true 0 7 = 0
    · rw [if_pos hu, if_pos hu, tw_c_trap, tw_m_trap_1_9]
      exact tw_o_trap hR2 hC2 true 9 0
    · rw [if_neg hu, if_neg hu, tw_c_trap, tw_m_trap_1_8]
      exact tw_o_trap hR2 hC2 true 8 0
  · rw [if_neg (fun z => o17 (t17.mp z)), if_neg (fun z => o17 (t17.mp z))]
    by_cases o18 : o = 18
    · rw [if_pos (t18.mpr o18), if_pos (t18.mpr o18), tw_c_trap, tw_m_trap_1_3]
      exact tw_o_trap hR2 hC2 true 3 0
    · rw [if_neg (fun z => o18 (t18.mp z)), if_neg (fun z => o18 (t18.mp z))]
      by_cases big : 24 < o
      · rw [if_pos (l24.mpr big), if_neg (fun z => absurd (l24'.mp z) (by omega)), tw_m_ill_1, tw_c_ill_1, ite_self]
        exact tw_o_trap hR2 hC2 true 2 w
      · rw [if_neg (fun z => big (l24.mp z)), if_pos (l24'.mpr (by omega))]
        by_cases hu : σc true 0 7 = 0
        · rw [if_pos hu, if_pos hu]
          by_cases o22 : o = 22
          · rw [if_pos (t22.mpr o22), if_pos (l22.mpr (by omega)), if_pos (t22.mpr o22), tw_c_leave, tw_bi_s, if_pos (tw_lvu_01 _)]
            have e50 : sm false 25 12 = sc true 5 0 := tw_Rel_5 hR2 true (j := 0) (by decide)
            have e52 : sm false 25 14 = sc true 5 2 := tw_Rel_5 hR2 true (j := 2) (by decide)
            have n52 : tw_pt sc true 5 0 (tw_lvs (sc true 5 0)) true 5 2 = sc true 5 2 := tw_pt_n _ _ (fun z => absurd z.2.2 (by decide))
            have hR3 := tw_Rel_us (tw_r_ctl hR2 true (j := 0) (by decide) (tw_lvs (sc true 5 0))) true (tw_lvu_01 (sc true 5 0))
            have hC3 : ∀ g', tw_Coh (tw_pt (tw_pt sc true 5 0 (tw_lvs (sc true 5 0))) true 0 7 (tw_lvu (sc true 5 0))) g' := fun g' => tw_Coh_pt (tw_Coh_pt (hC2 g') rfl _) rfl _
            have key : ∀ u : Int32, u = tw_lvu (sc true 5 0) → tw_OutP d (some (some (.inr (false, 60)), tw_pt (tw_pt (tw_pt (tw_pt sc true 5 0 (tw_lvs (sc true 5 0))) true 0 7 (tw_lvu (sc true 5 0))) true 5 10 ((tw_pt (tw_pt sc true 5 0 (tw_lvs (sc true 5 0))) true 0 7 (tw_lvu (sc true 5 0))) true 5 10 + 1)) true 0 6 (sc true 5 2))) (some (some (.inl (1 : Int32)), (tw_pt (tw_pt (tw_pt (tw_pt sm false 27 1 u) false 25 12 ((((sc true 5 0) &&& (8 : Int32)) ||| (2 : Int32)) ||| (((sc true 5 0) >>> ((1 : Int32) &&& 31)) &&& (1 : Int32)))) false 25 22 ((sm false 25 22) + (1 : Int32))) false 26 1 (sc true 5 2)))) := by
              intro u hu2
              rw [hu2, tw_shr1]
              have ec : tw_pt (tw_pt sm false 27 1 (tw_lvu (sc true 5 0))) false 25 12 (tw_lvs (sc true 5 0)) = tw_pt (tw_pt sm false 25 (12 * tw_b true + 0) (tw_lvs (sc true 5 0))) false 27 (tw_b true) (tw_lvu (sc true 5 0)) := tw_pt_comm _ _ _ (fun z => absurd z.2.1 (by decide))
              show tw_OutP d _ (some (some (.inl (1 : Int32)), (tw_pt (tw_pt (tw_pt (tw_pt sm false 27 1 (tw_lvu (sc true 5 0))) false 25 12 (tw_lvs (sc true 5 0))) false 25 22 ((sm false 25 22) + (1 : Int32))) false 26 1 (sc true 5 2))))
              rw [ec]
              exact tw_o_ret hR3 hC3 true rfl
            rw [n52, e50, e52]
            by_cases h4 : sc true 5 0 &&& 4 = 0
            · rw [if_pos h4]
              exact tw_o_hand (key 1 (by unfold tw_lvu; rw [if_pos h4]))
            · rw [if_neg h4]
              exact tw_o_hand (key 0 (by unfold tw_lvu; rw [if_neg h4]))
          · rw [if_neg (fun z => o22 (t22.mp z))]
            by_cases o23 : o = 23
            · rw [if_pos (t23.mpr o23), if_pos (l22.mpr (by omega)), if_neg (fun z => o22 (t22.mp z)), if_pos (t23.mpr o23), tw_c_flush, tw_bv_s, tw_m_flush_1, tw_bv_s, if_neg (fun z => absurd (t24.mp z) (by omega))]
              have hR3 : tw_Rel d (tw_pt (tw_clrI 10 0 16 true sc) true 3 5 (sc true 3 5 + 1)) (tw_pt (tw_clrI 32 16 32 false sm) false 31 14 (sm false 31 14 + 1)) := by
                have e : sm false 31 14 = sc true 3 5 := tw_Rel_3 hR2 true (j := 5) (by decide)
                rw [e]
                exact tw_r_cnt (tw_r_clr hR2 true) true (by decide) _
              exact tw_o_ret hR3 (fun g' => tw_Coh_pt (tw_clr_coh2 (hC2 g')) rfl _) true (by rw [← tw_Rel_pc hR3 true]; rfl)
            · rw [if_neg (fun z => o23 (t23.mp z))]
              by_cases o24 : o = 24
              · rw [if_pos (t24.mpr o24), if_pos (l22.mpr (by omega)), if_neg (fun z => o22 (t22.mp z)), if_neg (fun z => o23 (t23.mp z)), if_pos (t24.mpr o24), hdue, tw_bi_s]
                by_cases hz : both = 0
                · rw [if_pos hz, if_pos hz]
                  exact ⟨62, 2, sc, sm, rfl, rfl, Or.inr (Or.inr ⟨rfl, rfl⟩), hR2, hC2⟩
                · rw [if_neg hz, if_neg hz]
                  exact tw_o_ret hR2 hC2 true (by rw [← tw_Rel_pc hR2 true]; rfl)
              · rw [if_neg (fun z => o24 (t24.mp z)), if_neg (fun z => absurd (l22.mp z) (by omega))]
                have hop : w &&& 31 = 19 ∨ w &&& 31 = 20 ∨ w &&& 31 = 21 := by
                  have : o = 19 ∨ o = 20 ∨ o = 21 := by omega
                  rcases this with z | z | z
                  · exact Or.inl (by rw [eo, z]; rfl)
                  · exact Or.inr (Or.inl (by rw [eo, z]; rfl))
                  · exact Or.inr (Or.inr (by rw [eo, z]; rfl))
                exact tw_o_hand (tw_o_handm (tw_p_cc_1 hR2 hC2 w hop))
        · rw [if_neg hu, if_neg hu, tw_m_ill_1, tw_c_ill_1]
          exact tw_o_trap hR2 hC2 true 2 w
