/-! the states: class (XS) and reference (MS), a tuple each; readers x_.., m_.., writers sx_.., sm_.. -/
abbrev XS : Type := (Nat → Int64) × (Nat → Int64) × (Nat → Int64) × (Nat → Int32) × (Nat → Int64) × (Int32) × (Int32) × (Int64) × (Int64) × (Int64) × (Int64) × (Int64)
def x_g (u : XS) : Nat → Int64 := u.1
def x_sp (u : XS) : Nat → Int64 := u.2.1
def x_ta (u : XS) : Nat → Int64 := u.2.2.1
def x_ob (u : XS) : Nat → Int32 := u.2.2.2.1
def x_oc (u : XS) : Nat → Int64 := u.2.2.2.2.1
def x_ol (u : XS) : Int32 := u.2.2.2.2.2.1
def x_pl (u : XS) : Int32 := u.2.2.2.2.2.2.1
def x_pc (u : XS) : Int64 := u.2.2.2.2.2.2.2.1
def x_oo (u : XS) : Int64 := u.2.2.2.2.2.2.2.2.1
def x_me (u : XS) : Int64 := u.2.2.2.2.2.2.2.2.2.1
def x_tr (u : XS) : Int64 := u.2.2.2.2.2.2.2.2.2.2.1
def x_la (u : XS) : Int64 := u.2.2.2.2.2.2.2.2.2.2.2
def sx_g (u : XS) (v : Nat → Int64) : XS := (v, u.2)
def sx_sp (u : XS) (v : Nat → Int64) : XS := (u.1, v, u.2.2)
def sx_ta (u : XS) (v : Nat → Int64) : XS := (u.1, u.2.1, v, u.2.2.2)
def sx_ob (u : XS) (v : Nat → Int32) : XS := (u.1, u.2.1, u.2.2.1, v, u.2.2.2.2)
def sx_oc (u : XS) (v : Nat → Int64) : XS := (u.1, u.2.1, u.2.2.1, u.2.2.2.1, v, u.2.2.2.2.2)
def sx_ol (u : XS) (v : Int32) : XS := (u.1, u.2.1, u.2.2.1, u.2.2.2.1, u.2.2.2.2.1, v, u.2.2.2.2.2.2)
def sx_pl (u : XS) (v : Int32) : XS := (u.1, u.2.1, u.2.2.1, u.2.2.2.1, u.2.2.2.2.1, u.2.2.2.2.2.1, v, u.2.2.2.2.2.2.2)
def sx_pc (u : XS) (v : Int64) : XS := (u.1, u.2.1, u.2.2.1, u.2.2.2.1, u.2.2.2.2.1, u.2.2.2.2.2.1, u.2.2.2.2.2.2.1, v, u.2.2.2.2.2.2.2.2)
def sx_oo (u : XS) (v : Int64) : XS := (u.1, u.2.1, u.2.2.1, u.2.2.2.1, u.2.2.2.2.1, u.2.2.2.2.2.1, u.2.2.2.2.2.2.1, u.2.2.2.2.2.2.2.1, v, u.2.2.2.2.2.2.2.2.2)
def sx_me (u : XS) (v : Int64) : XS := (u.1, u.2.1, u.2.2.1, u.2.2.2.1, u.2.2.2.2.1, u.2.2.2.2.2.1, u.2.2.2.2.2.2.1, u.2.2.2.2.2.2.2.1, u.2.2.2.2.2.2.2.2.1, v, u.2.2.2.2.2.2.2.2.2.2)
def sx_tr (u : XS) (v : Int64) : XS := (u.1, u.2.1, u.2.2.1, u.2.2.2.1, u.2.2.2.2.1, u.2.2.2.2.2.1, u.2.2.2.2.2.2.1, u.2.2.2.2.2.2.2.1, u.2.2.2.2.2.2.2.2.1, u.2.2.2.2.2.2.2.2.2.1, v, u.2.2.2.2.2.2.2.2.2.2.2)
def sx_la (u : XS) (v : Int64) : XS := (u.1, u.2.1, u.2.2.1, u.2.2.2.1, u.2.2.2.2.1, u.2.2.2.2.2.1, u.2.2.2.2.2.2.1, u.2.2.2.2.2.2.2.1, u.2.2.2.2.2.2.2.2.1, u.2.2.2.2.2.2.2.2.2.1, u.2.2.2.2.2.2.2.2.2.2.1, v)
abbrev MS : Type := (Int32) × (Nat → Int64) × (Nat → Int64) × (Nat → Int64) × (Nat → Int32) × (Nat → Int32) × (Int32) × (Int32) × (Int64) × (Int64) × (Int64) × (Int64) × (Int64) × (Nat → Int32) × (Nat → Int32) × (Int32) × (Int32)
def m_th (u : MS) : Int32 := u.1
def m_g (u : MS) : Nat → Int64 := u.2.1
def m_sp (u : MS) : Nat → Int64 := u.2.2.1
def m_ta (u : MS) : Nat → Int64 := u.2.2.2.1
def m_mm (u : MS) : Nat → Int32 := u.2.2.2.2.1
def m_ou (u : MS) : Nat → Int32 := u.2.2.2.2.2.1
def m_on (u : MS) : Int32 := u.2.2.2.2.2.2.1
def m_pl (u : MS) : Int32 := u.2.2.2.2.2.2.2.1
def m_pc (u : MS) : Int64 := u.2.2.2.2.2.2.2.2.1
def m_oo (u : MS) : Int64 := u.2.2.2.2.2.2.2.2.2.1
def m_me (u : MS) : Int64 := u.2.2.2.2.2.2.2.2.2.2.1
def m_tr (u : MS) : Int64 := u.2.2.2.2.2.2.2.2.2.2.2.1
def m_la (u : MS) : Int64 := u.2.2.2.2.2.2.2.2.2.2.2.2.1
def m_nm (u : MS) : Nat → Int32 := u.2.2.2.2.2.2.2.2.2.2.2.2.2.1
def m_cd (u : MS) : Nat → Int32 := u.2.2.2.2.2.2.2.2.2.2.2.2.2.2.1
def m_ct (u : MS) : Int32 := u.2.2.2.2.2.2.2.2.2.2.2.2.2.2.2.1
def m_lt (u : MS) : Int32 := u.2.2.2.2.2.2.2.2.2.2.2.2.2.2.2.2
def sm_th (u : MS) (v : Int32) : MS := (v, u.2)
def sm_g (u : MS) (v : Nat → Int64) : MS := (u.1, v, u.2.2)
def sm_sp (u : MS) (v : Nat → Int64) : MS := (u.1, u.2.1, v, u.2.2.2)
def sm_ta (u : MS) (v : Nat → Int64) : MS := (u.1, u.2.1, u.2.2.1, v, u.2.2.2.2)
def sm_mm (u : MS) (v : Nat → Int32) : MS := (u.1, u.2.1, u.2.2.1, u.2.2.2.1, v, u.2.2.2.2.2)
def sm_ou (u : MS) (v : Nat → Int32) : MS := (u.1, u.2.1, u.2.2.1, u.2.2.2.1, u.2.2.2.2.1, v, u.2.2.2.2.2.2)
def sm_on (u : MS) (v : Int32) : MS := (u.1, u.2.1, u.2.2.1, u.2.2.2.1, u.2.2.2.2.1, u.2.2.2.2.2.1, v, u.2.2.2.2.2.2.2)
def sm_pl (u : MS) (v : Int32) : MS := (u.1, u.2.1, u.2.2.1, u.2.2.2.1, u.2.2.2.2.1, u.2.2.2.2.2.1, u.2.2.2.2.2.2.1, v, u.2.2.2.2.2.2.2.2)
def sm_pc (u : MS) (v : Int64) : MS := (u.1, u.2.1, u.2.2.1, u.2.2.2.1, u.2.2.2.2.1, u.2.2.2.2.2.1, u.2.2.2.2.2.2.1, u.2.2.2.2.2.2.2.1, v, u.2.2.2.2.2.2.2.2.2)
def sm_oo (u : MS) (v : Int64) : MS := (u.1, u.2.1, u.2.2.1, u.2.2.2.1, u.2.2.2.2.1, u.2.2.2.2.2.1, u.2.2.2.2.2.2.1, u.2.2.2.2.2.2.2.1, u.2.2.2.2.2.2.2.2.1, v, u.2.2.2.2.2.2.2.2.2.2)
def sm_me (u : MS) (v : Int64) : MS := (u.1, u.2.1, u.2.2.1, u.2.2.2.1, u.2.2.2.2.1, u.2.2.2.2.2.1, u.2.2.2.2.2.2.1, u.2.2.2.2.2.2.2.1, u.2.2.2.2.2.2.2.2.1, u.2.2.2.2.2.2.2.2.2.1, v, u.2.2.2.2.2.2.2.2.2.2.2)
def sm_tr (u : MS) (v : Int64) : MS := (u.1, u.2.1, u.2.2.1, u.2.2.2.1, u.2.2.2.2.1, u.2.2.2.2.2.1, u.2.2.2.2.2.2.1, u.2.2.2.2.2.2.2.1, u.2.2.2.2.2.2.2.2.1, u.2.2.2.2.2.2.2.2.2.1, u.2.2.2.2.2.2.2.2.2.2.1, v, u.2.2.2.2.2.2.2.2.2.2.2.2)
def sm_la (u : MS) (v : Int64) : MS := (u.1, u.2.1, u.2.2.1, u.2.2.2.1, u.2.2.2.2.1, u.2.2.2.2.2.1, u.2.2.2.2.2.2.1, u.2.2.2.2.2.2.2.1, u.2.2.2.2.2.2.2.2.1, u.2.2.2.2.2.2.2.2.2.1, u.2.2.2.2.2.2.2.2.2.2.1, u.2.2.2.2.2.2.2.2.2.2.2.1, v, u.2.2.2.2.2.2.2.2.2.2.2.2.2)
def sm_nm (u : MS) (v : Nat → Int32) : MS := (u.1, u.2.1, u.2.2.1, u.2.2.2.1, u.2.2.2.2.1, u.2.2.2.2.2.1, u.2.2.2.2.2.2.1, u.2.2.2.2.2.2.2.1, u.2.2.2.2.2.2.2.2.1, u.2.2.2.2.2.2.2.2.2.1, u.2.2.2.2.2.2.2.2.2.2.1, u.2.2.2.2.2.2.2.2.2.2.2.1, u.2.2.2.2.2.2.2.2.2.2.2.2.1, v, u.2.2.2.2.2.2.2.2.2.2.2.2.2.2)
def sm_cd (u : MS) (v : Nat → Int32) : MS := (u.1, u.2.1, u.2.2.1, u.2.2.2.1, u.2.2.2.2.1, u.2.2.2.2.2.1, u.2.2.2.2.2.2.1, u.2.2.2.2.2.2.2.1, u.2.2.2.2.2.2.2.2.1, u.2.2.2.2.2.2.2.2.2.1, u.2.2.2.2.2.2.2.2.2.2.1, u.2.2.2.2.2.2.2.2.2.2.2.1, u.2.2.2.2.2.2.2.2.2.2.2.2.1, u.2.2.2.2.2.2.2.2.2.2.2.2.2.1, v, u.2.2.2.2.2.2.2.2.2.2.2.2.2.2.2)
def sm_ct (u : MS) (v : Int32) : MS := (u.1, u.2.1, u.2.2.1, u.2.2.2.1, u.2.2.2.2.1, u.2.2.2.2.2.1, u.2.2.2.2.2.2.1, u.2.2.2.2.2.2.2.1, u.2.2.2.2.2.2.2.2.1, u.2.2.2.2.2.2.2.2.2.1, u.2.2.2.2.2.2.2.2.2.2.1, u.2.2.2.2.2.2.2.2.2.2.2.1, u.2.2.2.2.2.2.2.2.2.2.2.2.1, u.2.2.2.2.2.2.2.2.2.2.2.2.2.1, u.2.2.2.2.2.2.2.2.2.2.2.2.2.2.1, v, u.2.2.2.2.2.2.2.2.2.2.2.2.2.2.2.2)
def sm_lt (u : MS) (v : Int32) : MS := (u.1, u.2.1, u.2.2.1, u.2.2.2.1, u.2.2.2.2.1, u.2.2.2.2.2.1, u.2.2.2.2.2.2.1, u.2.2.2.2.2.2.2.1, u.2.2.2.2.2.2.2.2.1, u.2.2.2.2.2.2.2.2.2.1, u.2.2.2.2.2.2.2.2.2.2.1, u.2.2.2.2.2.2.2.2.2.2.2.1, u.2.2.2.2.2.2.2.2.2.2.2.2.1, u.2.2.2.2.2.2.2.2.2.2.2.2.2.1, u.2.2.2.2.2.2.2.2.2.2.2.2.2.2.1, u.2.2.2.2.2.2.2.2.2.2.2.2.2.2.2.1, v)
theorem x_g_sg (u : XS) (v : Nat → Int64) : x_g (sx_g u v) = v := rfl
theorem x_sp_sg (u : XS) (v : Nat → Int64) : x_sp (sx_g u v) = x_sp u := rfl
theorem x_ta_sg (u : XS) (v : Nat → Int64) : x_ta (sx_g u v) = x_ta u := rfl
theorem x_ob_sg (u : XS) (v : Nat → Int64) : x_ob (sx_g u v) = x_ob u := rfl
theorem x_oc_sg (u : XS) (v : Nat → Int64) : x_oc (sx_g u v) = x_oc u := rfl
theorem x_ol_sg (u : XS) (v : Nat → Int64) : x_ol (sx_g u v) = x_ol u := rfl
theorem x_pl_sg (u : XS) (v : Nat → Int64) : x_pl (sx_g u v) = x_pl u := rfl
theorem x_pc_sg (u : XS) (v : Nat → Int64) : x_pc (sx_g u v) = x_pc u := rfl
theorem x_oo_sg (u : XS) (v : Nat → Int64) : x_oo (sx_g u v) = x_oo u := rfl
theorem x_me_sg (u : XS) (v : Nat → Int64) : x_me (sx_g u v) = x_me u := rfl
theorem x_tr_sg (u : XS) (v : Nat → Int64) : x_tr (sx_g u v) = x_tr u := rfl
theorem x_la_sg (u : XS) (v : Nat → Int64) : x_la (sx_g u v) = x_la u := rfl
theorem x_g_ssp (u : XS) (v : Nat → Int64) : x_g (sx_sp u v) = x_g u := rfl
theorem x_sp_ssp (u : XS) (v : Nat → Int64) : x_sp (sx_sp u v) = v := rfl
theorem x_ta_ssp (u : XS) (v : Nat → Int64) : x_ta (sx_sp u v) = x_ta u := rfl
theorem x_ob_ssp (u : XS) (v : Nat → Int64) : x_ob (sx_sp u v) = x_ob u := rfl
theorem x_oc_ssp (u : XS) (v : Nat → Int64) : x_oc (sx_sp u v) = x_oc u := rfl
theorem x_ol_ssp (u : XS) (v : Nat → Int64) : x_ol (sx_sp u v) = x_ol u := rfl
theorem x_pl_ssp (u : XS) (v : Nat → Int64) : x_pl (sx_sp u v) = x_pl u := rfl
theorem x_pc_ssp (u : XS) (v : Nat → Int64) : x_pc (sx_sp u v) = x_pc u := rfl
theorem x_oo_ssp (u : XS) (v : Nat → Int64) : x_oo (sx_sp u v) = x_oo u := rfl
theorem x_me_ssp (u : XS) (v : Nat → Int64) : x_me (sx_sp u v) = x_me u := rfl
theorem x_tr_ssp (u : XS) (v : Nat → Int64) : x_tr (sx_sp u v) = x_tr u := rfl
theorem x_la_ssp (u : XS) (v : Nat → Int64) : x_la (sx_sp u v) = x_la u := rfl
theorem x_g_sta (u : XS) (v : Nat → Int64) : x_g (sx_ta u v) = x_g u := rfl
theorem x_sp_sta (u : XS) (v : Nat → Int64) : x_sp (sx_ta u v) = x_sp u := rfl
theorem x_ta_sta (u : XS) (v : Nat → Int64) : x_ta (sx_ta u v) = v := rfl
theorem x_ob_sta (u : XS) (v : Nat → Int64) : x_ob (sx_ta u v) = x_ob u := rfl
theorem x_oc_sta (u : XS) (v : Nat → Int64) : x_oc (sx_ta u v) = x_oc u := rfl
theorem x_ol_sta (u : XS) (v : Nat → Int64) : x_ol (sx_ta u v) = x_ol u := rfl
theorem x_pl_sta (u : XS) (v : Nat → Int64) : x_pl (sx_ta u v) = x_pl u := rfl
theorem x_pc_sta (u : XS) (v : Nat → Int64) : x_pc (sx_ta u v) = x_pc u := rfl
theorem x_oo_sta (u : XS) (v : Nat → Int64) : x_oo (sx_ta u v) = x_oo u := rfl
theorem x_me_sta (u : XS) (v : Nat → Int64) : x_me (sx_ta u v) = x_me u := rfl
theorem x_tr_sta (u : XS) (v : Nat → Int64) : x_tr (sx_ta u v) = x_tr u := rfl
theorem x_la_sta (u : XS) (v : Nat → Int64) : x_la (sx_ta u v) = x_la u := rfl
theorem x_g_sob (u : XS) (v : Nat → Int32) : x_g (sx_ob u v) = x_g u := rfl
theorem x_sp_sob (u : XS) (v : Nat → Int32) : x_sp (sx_ob u v) = x_sp u := rfl
theorem x_ta_sob (u : XS) (v : Nat → Int32) : x_ta (sx_ob u v) = x_ta u := rfl
theorem x_ob_sob (u : XS) (v : Nat → Int32) : x_ob (sx_ob u v) = v := rfl
theorem x_oc_sob (u : XS) (v : Nat → Int32) : x_oc (sx_ob u v) = x_oc u := rfl
theorem x_ol_sob (u : XS) (v : Nat → Int32) : x_ol (sx_ob u v) = x_ol u := rfl
theorem x_pl_sob (u : XS) (v : Nat → Int32) : x_pl (sx_ob u v) = x_pl u := rfl
theorem x_pc_sob (u : XS) (v : Nat → Int32) : x_pc (sx_ob u v) = x_pc u := rfl
theorem x_oo_sob (u : XS) (v : Nat → Int32) : x_oo (sx_ob u v) = x_oo u := rfl
theorem x_me_sob (u : XS) (v : Nat → Int32) : x_me (sx_ob u v) = x_me u := rfl
theorem x_tr_sob (u : XS) (v : Nat → Int32) : x_tr (sx_ob u v) = x_tr u := rfl
theorem x_la_sob (u : XS) (v : Nat → Int32) : x_la (sx_ob u v) = x_la u := rfl
theorem x_g_soc (u : XS) (v : Nat → Int64) : x_g (sx_oc u v) = x_g u := rfl
theorem x_sp_soc (u : XS) (v : Nat → Int64) : x_sp (sx_oc u v) = x_sp u := rfl
theorem x_ta_soc (u : XS) (v : Nat → Int64) : x_ta (sx_oc u v) = x_ta u := rfl
theorem x_ob_soc (u : XS) (v : Nat → Int64) : x_ob (sx_oc u v) = x_ob u := rfl
theorem x_oc_soc (u : XS) (v : Nat → Int64) : x_oc (sx_oc u v) = v := rfl
theorem x_ol_soc (u : XS) (v : Nat → Int64) : x_ol (sx_oc u v) = x_ol u := rfl
theorem x_pl_soc (u : XS) (v : Nat → Int64) : x_pl (sx_oc u v) = x_pl u := rfl
theorem x_pc_soc (u : XS) (v : Nat → Int64) : x_pc (sx_oc u v) = x_pc u := rfl
theorem x_oo_soc (u : XS) (v : Nat → Int64) : x_oo (sx_oc u v) = x_oo u := rfl
theorem x_me_soc (u : XS) (v : Nat → Int64) : x_me (sx_oc u v) = x_me u := rfl
theorem x_tr_soc (u : XS) (v : Nat → Int64) : x_tr (sx_oc u v) = x_tr u := rfl
theorem x_la_soc (u : XS) (v : Nat → Int64) : x_la (sx_oc u v) = x_la u := rfl
theorem x_g_sol (u : XS) (v : Int32) : x_g (sx_ol u v) = x_g u := rfl
theorem x_sp_sol (u : XS) (v : Int32) : x_sp (sx_ol u v) = x_sp u := rfl
theorem x_ta_sol (u : XS) (v : Int32) : x_ta (sx_ol u v) = x_ta u := rfl
theorem x_ob_sol (u : XS) (v : Int32) : x_ob (sx_ol u v) = x_ob u := rfl
theorem x_oc_sol (u : XS) (v : Int32) : x_oc (sx_ol u v) = x_oc u := rfl
theorem x_ol_sol (u : XS) (v : Int32) : x_ol (sx_ol u v) = v := rfl
theorem x_pl_sol (u : XS) (v : Int32) : x_pl (sx_ol u v) = x_pl u := rfl
theorem x_pc_sol (u : XS) (v : Int32) : x_pc (sx_ol u v) = x_pc u := rfl
theorem x_oo_sol (u : XS) (v : Int32) : x_oo (sx_ol u v) = x_oo u := rfl
theorem x_me_sol (u : XS) (v : Int32) : x_me (sx_ol u v) = x_me u := rfl
theorem x_tr_sol (u : XS) (v : Int32) : x_tr (sx_ol u v) = x_tr u := rfl
theorem x_la_sol (u : XS) (v : Int32) : x_la (sx_ol u v) = x_la u := rfl
theorem x_g_spl (u : XS) (v : Int32) : x_g (sx_pl u v) = x_g u := rfl
theorem x_sp_spl (u : XS) (v : Int32) : x_sp (sx_pl u v) = x_sp u := rfl
theorem x_ta_spl (u : XS) (v : Int32) : x_ta (sx_pl u v) = x_ta u := rfl
theorem x_ob_spl (u : XS) (v : Int32) : x_ob (sx_pl u v) = x_ob u := rfl
theorem x_oc_spl (u : XS) (v : Int32) : x_oc (sx_pl u v) = x_oc u := rfl
theorem x_ol_spl (u : XS) (v : Int32) : x_ol (sx_pl u v) = x_ol u := rfl
theorem x_pl_spl (u : XS) (v : Int32) : x_pl (sx_pl u v) = v := rfl
theorem x_pc_spl (u : XS) (v : Int32) : x_pc (sx_pl u v) = x_pc u := rfl
theorem x_oo_spl (u : XS) (v : Int32) : x_oo (sx_pl u v) = x_oo u := rfl
theorem x_me_spl (u : XS) (v : Int32) : x_me (sx_pl u v) = x_me u := rfl
theorem x_tr_spl (u : XS) (v : Int32) : x_tr (sx_pl u v) = x_tr u := rfl
theorem x_la_spl (u : XS) (v : Int32) : x_la (sx_pl u v) = x_la u := rfl
theorem x_g_spc (u : XS) (v : Int64) : x_g (sx_pc u v) = x_g u := rfl
theorem x_sp_spc (u : XS) (v : Int64) : x_sp (sx_pc u v) = x_sp u := rfl
theorem x_ta_spc (u : XS) (v : Int64) : x_ta (sx_pc u v) = x_ta u := rfl
theorem x_ob_spc (u : XS) (v : Int64) : x_ob (sx_pc u v) = x_ob u := rfl
theorem x_oc_spc (u : XS) (v : Int64) : x_oc (sx_pc u v) = x_oc u := rfl
theorem x_ol_spc (u : XS) (v : Int64) : x_ol (sx_pc u v) = x_ol u := rfl
theorem x_pl_spc (u : XS) (v : Int64) : x_pl (sx_pc u v) = x_pl u := rfl
theorem x_pc_spc (u : XS) (v : Int64) : x_pc (sx_pc u v) = v := rfl
theorem x_oo_spc (u : XS) (v : Int64) : x_oo (sx_pc u v) = x_oo u := rfl
theorem x_me_spc (u : XS) (v : Int64) : x_me (sx_pc u v) = x_me u := rfl
theorem x_tr_spc (u : XS) (v : Int64) : x_tr (sx_pc u v) = x_tr u := rfl
theorem x_la_spc (u : XS) (v : Int64) : x_la (sx_pc u v) = x_la u := rfl
theorem x_g_soo (u : XS) (v : Int64) : x_g (sx_oo u v) = x_g u := rfl
theorem x_sp_soo (u : XS) (v : Int64) : x_sp (sx_oo u v) = x_sp u := rfl
theorem x_ta_soo (u : XS) (v : Int64) : x_ta (sx_oo u v) = x_ta u := rfl
theorem x_ob_soo (u : XS) (v : Int64) : x_ob (sx_oo u v) = x_ob u := rfl
theorem x_oc_soo (u : XS) (v : Int64) : x_oc (sx_oo u v) = x_oc u := rfl
theorem x_ol_soo (u : XS) (v : Int64) : x_ol (sx_oo u v) = x_ol u := rfl
theorem x_pl_soo (u : XS) (v : Int64) : x_pl (sx_oo u v) = x_pl u := rfl
theorem x_pc_soo (u : XS) (v : Int64) : x_pc (sx_oo u v) = x_pc u := rfl
theorem x_oo_soo (u : XS) (v : Int64) : x_oo (sx_oo u v) = v := rfl
theorem x_me_soo (u : XS) (v : Int64) : x_me (sx_oo u v) = x_me u := rfl
theorem x_tr_soo (u : XS) (v : Int64) : x_tr (sx_oo u v) = x_tr u := rfl
theorem x_la_soo (u : XS) (v : Int64) : x_la (sx_oo u v) = x_la u := rfl
theorem x_g_sme (u : XS) (v : Int64) : x_g (sx_me u v) = x_g u := rfl
theorem x_sp_sme (u : XS) (v : Int64) : x_sp (sx_me u v) = x_sp u := rfl
theorem x_ta_sme (u : XS) (v : Int64) : x_ta (sx_me u v) = x_ta u := rfl
theorem x_ob_sme (u : XS) (v : Int64) : x_ob (sx_me u v) = x_ob u := rfl
theorem x_oc_sme (u : XS) (v : Int64) : x_oc (sx_me u v) = x_oc u := rfl
theorem x_ol_sme (u : XS) (v : Int64) : x_ol (sx_me u v) = x_ol u := rfl
theorem x_pl_sme (u : XS) (v : Int64) : x_pl (sx_me u v) = x_pl u := rfl
theorem x_pc_sme (u : XS) (v : Int64) : x_pc (sx_me u v) = x_pc u := rfl
theorem x_oo_sme (u : XS) (v : Int64) : x_oo (sx_me u v) = x_oo u := rfl
theorem x_me_sme (u : XS) (v : Int64) : x_me (sx_me u v) = v := rfl
theorem x_tr_sme (u : XS) (v : Int64) : x_tr (sx_me u v) = x_tr u := rfl
theorem x_la_sme (u : XS) (v : Int64) : x_la (sx_me u v) = x_la u := rfl
theorem x_g_str (u : XS) (v : Int64) : x_g (sx_tr u v) = x_g u := rfl
theorem x_sp_str (u : XS) (v : Int64) : x_sp (sx_tr u v) = x_sp u := rfl
theorem x_ta_str (u : XS) (v : Int64) : x_ta (sx_tr u v) = x_ta u := rfl
theorem x_ob_str (u : XS) (v : Int64) : x_ob (sx_tr u v) = x_ob u := rfl
theorem x_oc_str (u : XS) (v : Int64) : x_oc (sx_tr u v) = x_oc u := rfl
theorem x_ol_str (u : XS) (v : Int64) : x_ol (sx_tr u v) = x_ol u := rfl
theorem x_pl_str (u : XS) (v : Int64) : x_pl (sx_tr u v) = x_pl u := rfl
theorem x_pc_str (u : XS) (v : Int64) : x_pc (sx_tr u v) = x_pc u := rfl
theorem x_oo_str (u : XS) (v : Int64) : x_oo (sx_tr u v) = x_oo u := rfl
theorem x_me_str (u : XS) (v : Int64) : x_me (sx_tr u v) = x_me u := rfl
theorem x_tr_str (u : XS) (v : Int64) : x_tr (sx_tr u v) = v := rfl
theorem x_la_str (u : XS) (v : Int64) : x_la (sx_tr u v) = x_la u := rfl
theorem x_g_sla (u : XS) (v : Int64) : x_g (sx_la u v) = x_g u := rfl
theorem x_sp_sla (u : XS) (v : Int64) : x_sp (sx_la u v) = x_sp u := rfl
theorem x_ta_sla (u : XS) (v : Int64) : x_ta (sx_la u v) = x_ta u := rfl
theorem x_ob_sla (u : XS) (v : Int64) : x_ob (sx_la u v) = x_ob u := rfl
theorem x_oc_sla (u : XS) (v : Int64) : x_oc (sx_la u v) = x_oc u := rfl
theorem x_ol_sla (u : XS) (v : Int64) : x_ol (sx_la u v) = x_ol u := rfl
theorem x_pl_sla (u : XS) (v : Int64) : x_pl (sx_la u v) = x_pl u := rfl
theorem x_pc_sla (u : XS) (v : Int64) : x_pc (sx_la u v) = x_pc u := rfl
theorem x_oo_sla (u : XS) (v : Int64) : x_oo (sx_la u v) = x_oo u := rfl
theorem x_me_sla (u : XS) (v : Int64) : x_me (sx_la u v) = x_me u := rfl
theorem x_tr_sla (u : XS) (v : Int64) : x_tr (sx_la u v) = x_tr u := rfl
theorem x_la_sla (u : XS) (v : Int64) : x_la (sx_la u v) = v := rfl
theorem m_th_sth (u : MS) (v : Int32) : m_th (sm_th u v) = v := rfl
theorem m_g_sth (u : MS) (v : Int32) : m_g (sm_th u v) = m_g u := rfl
theorem m_sp_sth (u : MS) (v : Int32) : m_sp (sm_th u v) = m_sp u := rfl
theorem m_ta_sth (u : MS) (v : Int32) : m_ta (sm_th u v) = m_ta u := rfl
theorem m_mm_sth (u : MS) (v : Int32) : m_mm (sm_th u v) = m_mm u := rfl
theorem m_ou_sth (u : MS) (v : Int32) : m_ou (sm_th u v) = m_ou u := rfl
theorem m_on_sth (u : MS) (v : Int32) : m_on (sm_th u v) = m_on u := rfl
theorem m_pl_sth (u : MS) (v : Int32) : m_pl (sm_th u v) = m_pl u := rfl
theorem m_pc_sth (u : MS) (v : Int32) : m_pc (sm_th u v) = m_pc u := rfl
theorem m_oo_sth (u : MS) (v : Int32) : m_oo (sm_th u v) = m_oo u := rfl
theorem m_me_sth (u : MS) (v : Int32) : m_me (sm_th u v) = m_me u := rfl
theorem m_tr_sth (u : MS) (v : Int32) : m_tr (sm_th u v) = m_tr u := rfl
theorem m_la_sth (u : MS) (v : Int32) : m_la (sm_th u v) = m_la u := rfl
theorem m_nm_sth (u : MS) (v : Int32) : m_nm (sm_th u v) = m_nm u := rfl
theorem m_cd_sth (u : MS) (v : Int32) : m_cd (sm_th u v) = m_cd u := rfl
theorem m_ct_sth (u : MS) (v : Int32) : m_ct (sm_th u v) = m_ct u := rfl
theorem m_lt_sth (u : MS) (v : Int32) : m_lt (sm_th u v) = m_lt u := rfl
theorem m_th_sg (u : MS) (v : Nat → Int64) : m_th (sm_g u v) = m_th u := rfl
theorem m_g_sg (u : MS) (v : Nat → Int64) : m_g (sm_g u v) = v := rfl
theorem m_sp_sg (u : MS) (v : Nat → Int64) : m_sp (sm_g u v) = m_sp u := rfl
theorem m_ta_sg (u : MS) (v : Nat → Int64) : m_ta (sm_g u v) = m_ta u := rfl
theorem m_mm_sg (u : MS) (v : Nat → Int64) : m_mm (sm_g u v) = m_mm u := rfl
theorem m_ou_sg (u : MS) (v : Nat → Int64) : m_ou (sm_g u v) = m_ou u := rfl
theorem m_on_sg (u : MS) (v : Nat → Int64) : m_on (sm_g u v) = m_on u := rfl
theorem m_pl_sg (u : MS) (v : Nat → Int64) : m_pl (sm_g u v) = m_pl u := rfl
theorem m_pc_sg (u : MS) (v : Nat → Int64) : m_pc (sm_g u v) = m_pc u := rfl
theorem m_oo_sg (u : MS) (v : Nat → Int64) : m_oo (sm_g u v) = m_oo u := rfl
theorem m_me_sg (u : MS) (v : Nat → Int64) : m_me (sm_g u v) = m_me u := rfl
theorem m_tr_sg (u : MS) (v : Nat → Int64) : m_tr (sm_g u v) = m_tr u := rfl
theorem m_la_sg (u : MS) (v : Nat → Int64) : m_la (sm_g u v) = m_la u := rfl
theorem m_nm_sg (u : MS) (v : Nat → Int64) : m_nm (sm_g u v) = m_nm u := rfl
theorem m_cd_sg (u : MS) (v : Nat → Int64) : m_cd (sm_g u v) = m_cd u := rfl
theorem m_ct_sg (u : MS) (v : Nat → Int64) : m_ct (sm_g u v) = m_ct u := rfl
theorem m_lt_sg (u : MS) (v : Nat → Int64) : m_lt (sm_g u v) = m_lt u := rfl
theorem m_th_ssp (u : MS) (v : Nat → Int64) : m_th (sm_sp u v) = m_th u := rfl
theorem m_g_ssp (u : MS) (v : Nat → Int64) : m_g (sm_sp u v) = m_g u := rfl
theorem m_sp_ssp (u : MS) (v : Nat → Int64) : m_sp (sm_sp u v) = v := rfl
theorem m_ta_ssp (u : MS) (v : Nat → Int64) : m_ta (sm_sp u v) = m_ta u := rfl
theorem m_mm_ssp (u : MS) (v : Nat → Int64) : m_mm (sm_sp u v) = m_mm u := rfl
theorem m_ou_ssp (u : MS) (v : Nat → Int64) : m_ou (sm_sp u v) = m_ou u := rfl
theorem m_on_ssp (u : MS) (v : Nat → Int64) : m_on (sm_sp u v) = m_on u := rfl
theorem m_pl_ssp (u : MS) (v : Nat → Int64) : m_pl (sm_sp u v) = m_pl u := rfl
theorem m_pc_ssp (u : MS) (v : Nat → Int64) : m_pc (sm_sp u v) = m_pc u := rfl
theorem m_oo_ssp (u : MS) (v : Nat → Int64) : m_oo (sm_sp u v) = m_oo u := rfl
theorem m_me_ssp (u : MS) (v : Nat → Int64) : m_me (sm_sp u v) = m_me u := rfl
theorem m_tr_ssp (u : MS) (v : Nat → Int64) : m_tr (sm_sp u v) = m_tr u := rfl
theorem m_la_ssp (u : MS) (v : Nat → Int64) : m_la (sm_sp u v) = m_la u := rfl
theorem m_nm_ssp (u : MS) (v : Nat → Int64) : m_nm (sm_sp u v) = m_nm u := rfl
theorem m_cd_ssp (u : MS) (v : Nat → Int64) : m_cd (sm_sp u v) = m_cd u := rfl
theorem m_ct_ssp (u : MS) (v : Nat → Int64) : m_ct (sm_sp u v) = m_ct u := rfl
theorem m_lt_ssp (u : MS) (v : Nat → Int64) : m_lt (sm_sp u v) = m_lt u := rfl
theorem m_th_sta (u : MS) (v : Nat → Int64) : m_th (sm_ta u v) = m_th u := rfl
theorem m_g_sta (u : MS) (v : Nat → Int64) : m_g (sm_ta u v) = m_g u := rfl
theorem m_sp_sta (u : MS) (v : Nat → Int64) : m_sp (sm_ta u v) = m_sp u := rfl
theorem m_ta_sta (u : MS) (v : Nat → Int64) : m_ta (sm_ta u v) = v := rfl
theorem m_mm_sta (u : MS) (v : Nat → Int64) : m_mm (sm_ta u v) = m_mm u := rfl
theorem m_ou_sta (u : MS) (v : Nat → Int64) : m_ou (sm_ta u v) = m_ou u := rfl
theorem m_on_sta (u : MS) (v : Nat → Int64) : m_on (sm_ta u v) = m_on u := rfl
theorem m_pl_sta (u : MS) (v : Nat → Int64) : m_pl (sm_ta u v) = m_pl u := rfl
theorem m_pc_sta (u : MS) (v : Nat → Int64) : m_pc (sm_ta u v) = m_pc u := rfl
theorem m_oo_sta (u : MS) (v : Nat → Int64) : m_oo (sm_ta u v) = m_oo u := rfl
theorem m_me_sta (u : MS) (v : Nat → Int64) : m_me (sm_ta u v) = m_me u := rfl
theorem m_tr_sta (u : MS) (v : Nat → Int64) : m_tr (sm_ta u v) = m_tr u := rfl
theorem m_la_sta (u : MS) (v : Nat → Int64) : m_la (sm_ta u v) = m_la u := rfl
theorem m_nm_sta (u : MS) (v : Nat → Int64) : m_nm (sm_ta u v) = m_nm u := rfl
theorem m_cd_sta (u : MS) (v : Nat → Int64) : m_cd (sm_ta u v) = m_cd u := rfl
theorem m_ct_sta (u : MS) (v : Nat → Int64) : m_ct (sm_ta u v) = m_ct u := rfl
theorem m_lt_sta (u : MS) (v : Nat → Int64) : m_lt (sm_ta u v) = m_lt u := rfl
theorem m_th_smm (u : MS) (v : Nat → Int32) : m_th (sm_mm u v) = m_th u := rfl
theorem m_g_smm (u : MS) (v : Nat → Int32) : m_g (sm_mm u v) = m_g u := rfl
theorem m_sp_smm (u : MS) (v : Nat → Int32) : m_sp (sm_mm u v) = m_sp u := rfl
theorem m_ta_smm (u : MS) (v : Nat → Int32) : m_ta (sm_mm u v) = m_ta u := rfl
theorem m_mm_smm (u : MS) (v : Nat → Int32) : m_mm (sm_mm u v) = v := rfl
theorem m_ou_smm (u : MS) (v : Nat → Int32) : m_ou (sm_mm u v) = m_ou u := rfl
theorem m_on_smm (u : MS) (v : Nat → Int32) : m_on (sm_mm u v) = m_on u := rfl
theorem m_pl_smm (u : MS) (v : Nat → Int32) : m_pl (sm_mm u v) = m_pl u := rfl
theorem m_pc_smm (u : MS) (v : Nat → Int32) : m_pc (sm_mm u v) = m_pc u := rfl
theorem m_oo_smm (u : MS) (v : Nat → Int32) : m_oo (sm_mm u v) = m_oo u := rfl
theorem m_me_smm (u : MS) (v : Nat → Int32) : m_me (sm_mm u v) = m_me u := rfl
theorem m_tr_smm (u : MS) (v : Nat → Int32) : m_tr (sm_mm u v) = m_tr u := rfl
theorem m_la_smm (u : MS) (v : Nat → Int32) : m_la (sm_mm u v) = m_la u := rfl
theorem m_nm_smm (u : MS) (v : Nat → Int32) : m_nm (sm_mm u v) = m_nm u := rfl
theorem m_cd_smm (u : MS) (v : Nat → Int32) : m_cd (sm_mm u v) = m_cd u := rfl
theorem m_ct_smm (u : MS) (v : Nat → Int32) : m_ct (sm_mm u v) = m_ct u := rfl
theorem m_lt_smm (u : MS) (v : Nat → Int32) : m_lt (sm_mm u v) = m_lt u := rfl
theorem m_th_sou (u : MS) (v : Nat → Int32) : m_th (sm_ou u v) = m_th u := rfl
theorem m_g_sou (u : MS) (v : Nat → Int32) : m_g (sm_ou u v) = m_g u := rfl
theorem m_sp_sou (u : MS) (v : Nat → Int32) : m_sp (sm_ou u v) = m_sp u := rfl
theorem m_ta_sou (u : MS) (v : Nat → Int32) : m_ta (sm_ou u v) = m_ta u := rfl
theorem m_mm_sou (u : MS) (v : Nat → Int32) : m_mm (sm_ou u v) = m_mm u := rfl
theorem m_ou_sou (u : MS) (v : Nat → Int32) : m_ou (sm_ou u v) = v := rfl
theorem m_on_sou (u : MS) (v : Nat → Int32) : m_on (sm_ou u v) = m_on u := rfl
theorem m_pl_sou (u : MS) (v : Nat → Int32) : m_pl (sm_ou u v) = m_pl u := rfl
theorem m_pc_sou (u : MS) (v : Nat → Int32) : m_pc (sm_ou u v) = m_pc u := rfl
theorem m_oo_sou (u : MS) (v : Nat → Int32) : m_oo (sm_ou u v) = m_oo u := rfl
theorem m_me_sou (u : MS) (v : Nat → Int32) : m_me (sm_ou u v) = m_me u := rfl
theorem m_tr_sou (u : MS) (v : Nat → Int32) : m_tr (sm_ou u v) = m_tr u := rfl
theorem m_la_sou (u : MS) (v : Nat → Int32) : m_la (sm_ou u v) = m_la u := rfl
theorem m_nm_sou (u : MS) (v : Nat → Int32) : m_nm (sm_ou u v) = m_nm u := rfl
theorem m_cd_sou (u : MS) (v : Nat → Int32) : m_cd (sm_ou u v) = m_cd u := rfl
theorem m_ct_sou (u : MS) (v : Nat → Int32) : m_ct (sm_ou u v) = m_ct u := rfl
theorem m_lt_sou (u : MS) (v : Nat → Int32) : m_lt (sm_ou u v) = m_lt u := rfl
theorem m_th_son (u : MS) (v : Int32) : m_th (sm_on u v) = m_th u := rfl
theorem m_g_son (u : MS) (v : Int32) : m_g (sm_on u v) = m_g u := rfl
theorem m_sp_son (u : MS) (v : Int32) : m_sp (sm_on u v) = m_sp u := rfl
theorem m_ta_son (u : MS) (v : Int32) : m_ta (sm_on u v) = m_ta u := rfl
theorem m_mm_son (u : MS) (v : Int32) : m_mm (sm_on u v) = m_mm u := rfl
theorem m_ou_son (u : MS) (v : Int32) : m_ou (sm_on u v) = m_ou u := rfl
theorem m_on_son (u : MS) (v : Int32) : m_on (sm_on u v) = v := rfl
theorem m_pl_son (u : MS) (v : Int32) : m_pl (sm_on u v) = m_pl u := rfl
theorem m_pc_son (u : MS) (v : Int32) : m_pc (sm_on u v) = m_pc u := rfl
theorem m_oo_son (u : MS) (v : Int32) : m_oo (sm_on u v) = m_oo u := rfl
theorem m_me_son (u : MS) (v : Int32) : m_me (sm_on u v) = m_me u := rfl
theorem m_tr_son (u : MS) (v : Int32) : m_tr (sm_on u v) = m_tr u := rfl
theorem m_la_son (u : MS) (v : Int32) : m_la (sm_on u v) = m_la u := rfl
theorem m_nm_son (u : MS) (v : Int32) : m_nm (sm_on u v) = m_nm u := rfl
theorem m_cd_son (u : MS) (v : Int32) : m_cd (sm_on u v) = m_cd u := rfl
theorem m_ct_son (u : MS) (v : Int32) : m_ct (sm_on u v) = m_ct u := rfl
theorem m_lt_son (u : MS) (v : Int32) : m_lt (sm_on u v) = m_lt u := rfl
theorem m_th_spl (u : MS) (v : Int32) : m_th (sm_pl u v) = m_th u := rfl
theorem m_g_spl (u : MS) (v : Int32) : m_g (sm_pl u v) = m_g u := rfl
theorem m_sp_spl (u : MS) (v : Int32) : m_sp (sm_pl u v) = m_sp u := rfl
theorem m_ta_spl (u : MS) (v : Int32) : m_ta (sm_pl u v) = m_ta u := rfl
theorem m_mm_spl (u : MS) (v : Int32) : m_mm (sm_pl u v) = m_mm u := rfl
theorem m_ou_spl (u : MS) (v : Int32) : m_ou (sm_pl u v) = m_ou u := rfl
theorem m_on_spl (u : MS) (v : Int32) : m_on (sm_pl u v) = m_on u := rfl
theorem m_pl_spl (u : MS) (v : Int32) : m_pl (sm_pl u v) = v := rfl
theorem m_pc_spl (u : MS) (v : Int32) : m_pc (sm_pl u v) = m_pc u := rfl
theorem m_oo_spl (u : MS) (v : Int32) : m_oo (sm_pl u v) = m_oo u := rfl
theorem m_me_spl (u : MS) (v : Int32) : m_me (sm_pl u v) = m_me u := rfl
theorem m_tr_spl (u : MS) (v : Int32) : m_tr (sm_pl u v) = m_tr u := rfl
theorem m_la_spl (u : MS) (v : Int32) : m_la (sm_pl u v) = m_la u := rfl
theorem m_nm_spl (u : MS) (v : Int32) : m_nm (sm_pl u v) = m_nm u := rfl
theorem m_cd_spl (u : MS) (v : Int32) : m_cd (sm_pl u v) = m_cd u := rfl
theorem m_ct_spl (u : MS) (v : Int32) : m_ct (sm_pl u v) = m_ct u := rfl
theorem m_lt_spl (u : MS) (v : Int32) : m_lt (sm_pl u v) = m_lt u := rfl
theorem m_th_spc (u : MS) (v : Int64) : m_th (sm_pc u v) = m_th u := rfl
theorem m_g_spc (u : MS) (v : Int64) : m_g (sm_pc u v) = m_g u := rfl
theorem m_sp_spc (u : MS) (v : Int64) : m_sp (sm_pc u v) = m_sp u := rfl
theorem m_ta_spc (u : MS) (v : Int64) : m_ta (sm_pc u v) = m_ta u := rfl
theorem m_mm_spc (u : MS) (v : Int64) : m_mm (sm_pc u v) = m_mm u := rfl
theorem m_ou_spc (u : MS) (v : Int64) : m_ou (sm_pc u v) = m_ou u := rfl
theorem m_on_spc (u : MS) (v : Int64) : m_on (sm_pc u v) = m_on u := rfl
theorem m_pl_spc (u : MS) (v : Int64) : m_pl (sm_pc u v) = m_pl u := rfl
theorem m_pc_spc (u : MS) (v : Int64) : m_pc (sm_pc u v) = v := rfl
theorem m_oo_spc (u : MS) (v : Int64) : m_oo (sm_pc u v) = m_oo u := rfl
theorem m_me_spc (u : MS) (v : Int64) : m_me (sm_pc u v) = m_me u := rfl
theorem m_tr_spc (u : MS) (v : Int64) : m_tr (sm_pc u v) = m_tr u := rfl
theorem m_la_spc (u : MS) (v : Int64) : m_la (sm_pc u v) = m_la u := rfl
theorem m_nm_spc (u : MS) (v : Int64) : m_nm (sm_pc u v) = m_nm u := rfl
theorem m_cd_spc (u : MS) (v : Int64) : m_cd (sm_pc u v) = m_cd u := rfl
theorem m_ct_spc (u : MS) (v : Int64) : m_ct (sm_pc u v) = m_ct u := rfl
theorem m_lt_spc (u : MS) (v : Int64) : m_lt (sm_pc u v) = m_lt u := rfl
theorem m_th_soo (u : MS) (v : Int64) : m_th (sm_oo u v) = m_th u := rfl
theorem m_g_soo (u : MS) (v : Int64) : m_g (sm_oo u v) = m_g u := rfl
theorem m_sp_soo (u : MS) (v : Int64) : m_sp (sm_oo u v) = m_sp u := rfl
theorem m_ta_soo (u : MS) (v : Int64) : m_ta (sm_oo u v) = m_ta u := rfl
theorem m_mm_soo (u : MS) (v : Int64) : m_mm (sm_oo u v) = m_mm u := rfl
theorem m_ou_soo (u : MS) (v : Int64) : m_ou (sm_oo u v) = m_ou u := rfl
theorem m_on_soo (u : MS) (v : Int64) : m_on (sm_oo u v) = m_on u := rfl
theorem m_pl_soo (u : MS) (v : Int64) : m_pl (sm_oo u v) = m_pl u := rfl
theorem m_pc_soo (u : MS) (v : Int64) : m_pc (sm_oo u v) = m_pc u := rfl
theorem m_oo_soo (u : MS) (v : Int64) : m_oo (sm_oo u v) = v := rfl
theorem m_me_soo (u : MS) (v : Int64) : m_me (sm_oo u v) = m_me u := rfl
theorem m_tr_soo (u : MS) (v : Int64) : m_tr (sm_oo u v) = m_tr u := rfl
theorem m_la_soo (u : MS) (v : Int64) : m_la (sm_oo u v) = m_la u := rfl
theorem m_nm_soo (u : MS) (v : Int64) : m_nm (sm_oo u v) = m_nm u := rfl
theorem m_cd_soo (u : MS) (v : Int64) : m_cd (sm_oo u v) = m_cd u := rfl
theorem m_ct_soo (u : MS) (v : Int64) : m_ct (sm_oo u v) = m_ct u := rfl
theorem m_lt_soo (u : MS) (v : Int64) : m_lt (sm_oo u v) = m_lt u := rfl
theorem m_th_sme (u : MS) (v : Int64) : m_th (sm_me u v) = m_th u := rfl
theorem m_g_sme (u : MS) (v : Int64) : m_g (sm_me u v) = m_g u := rfl
theorem m_sp_sme (u : MS) (v : Int64) : m_sp (sm_me u v) = m_sp u := rfl
theorem m_ta_sme (u : MS) (v : Int64) : m_ta (sm_me u v) = m_ta u := rfl
theorem m_mm_sme (u : MS) (v : Int64) : m_mm (sm_me u v) = m_mm u := rfl
theorem m_ou_sme (u : MS) (v : Int64) : m_ou (sm_me u v) = m_ou u := rfl
theorem m_on_sme (u : MS) (v : Int64) : m_on (sm_me u v) = m_on u := rfl
theorem m_pl_sme (u : MS) (v : Int64) : m_pl (sm_me u v) = m_pl u := rfl
theorem m_pc_sme (u : MS) (v : Int64) : m_pc (sm_me u v) = m_pc u := rfl
theorem m_oo_sme (u : MS) (v : Int64) : m_oo (sm_me u v) = m_oo u := rfl
theorem m_me_sme (u : MS) (v : Int64) : m_me (sm_me u v) = v := rfl
theorem m_tr_sme (u : MS) (v : Int64) : m_tr (sm_me u v) = m_tr u := rfl
theorem m_la_sme (u : MS) (v : Int64) : m_la (sm_me u v) = m_la u := rfl
theorem m_nm_sme (u : MS) (v : Int64) : m_nm (sm_me u v) = m_nm u := rfl
theorem m_cd_sme (u : MS) (v : Int64) : m_cd (sm_me u v) = m_cd u := rfl
theorem m_ct_sme (u : MS) (v : Int64) : m_ct (sm_me u v) = m_ct u := rfl
theorem m_lt_sme (u : MS) (v : Int64) : m_lt (sm_me u v) = m_lt u := rfl
theorem m_th_str (u : MS) (v : Int64) : m_th (sm_tr u v) = m_th u := rfl
theorem m_g_str (u : MS) (v : Int64) : m_g (sm_tr u v) = m_g u := rfl
theorem m_sp_str (u : MS) (v : Int64) : m_sp (sm_tr u v) = m_sp u := rfl
theorem m_ta_str (u : MS) (v : Int64) : m_ta (sm_tr u v) = m_ta u := rfl
theorem m_mm_str (u : MS) (v : Int64) : m_mm (sm_tr u v) = m_mm u := rfl
theorem m_ou_str (u : MS) (v : Int64) : m_ou (sm_tr u v) = m_ou u := rfl
theorem m_on_str (u : MS) (v : Int64) : m_on (sm_tr u v) = m_on u := rfl
theorem m_pl_str (u : MS) (v : Int64) : m_pl (sm_tr u v) = m_pl u := rfl
theorem m_pc_str (u : MS) (v : Int64) : m_pc (sm_tr u v) = m_pc u := rfl
theorem m_oo_str (u : MS) (v : Int64) : m_oo (sm_tr u v) = m_oo u := rfl
theorem m_me_str (u : MS) (v : Int64) : m_me (sm_tr u v) = m_me u := rfl
theorem m_tr_str (u : MS) (v : Int64) : m_tr (sm_tr u v) = v := rfl
theorem m_la_str (u : MS) (v : Int64) : m_la (sm_tr u v) = m_la u := rfl
theorem m_nm_str (u : MS) (v : Int64) : m_nm (sm_tr u v) = m_nm u := rfl
theorem m_cd_str (u : MS) (v : Int64) : m_cd (sm_tr u v) = m_cd u := rfl
theorem m_ct_str (u : MS) (v : Int64) : m_ct (sm_tr u v) = m_ct u := rfl
theorem m_lt_str (u : MS) (v : Int64) : m_lt (sm_tr u v) = m_lt u := rfl
theorem m_th_sla (u : MS) (v : Int64) : m_th (sm_la u v) = m_th u := rfl
theorem m_g_sla (u : MS) (v : Int64) : m_g (sm_la u v) = m_g u := rfl
theorem m_sp_sla (u : MS) (v : Int64) : m_sp (sm_la u v) = m_sp u := rfl
theorem m_ta_sla (u : MS) (v : Int64) : m_ta (sm_la u v) = m_ta u := rfl
theorem m_mm_sla (u : MS) (v : Int64) : m_mm (sm_la u v) = m_mm u := rfl
theorem m_ou_sla (u : MS) (v : Int64) : m_ou (sm_la u v) = m_ou u := rfl
theorem m_on_sla (u : MS) (v : Int64) : m_on (sm_la u v) = m_on u := rfl
theorem m_pl_sla (u : MS) (v : Int64) : m_pl (sm_la u v) = m_pl u := rfl
theorem m_pc_sla (u : MS) (v : Int64) : m_pc (sm_la u v) = m_pc u := rfl
theorem m_oo_sla (u : MS) (v : Int64) : m_oo (sm_la u v) = m_oo u := rfl
theorem m_me_sla (u : MS) (v : Int64) : m_me (sm_la u v) = m_me u := rfl
theorem m_tr_sla (u : MS) (v : Int64) : m_tr (sm_la u v) = m_tr u := rfl
theorem m_la_sla (u : MS) (v : Int64) : m_la (sm_la u v) = v := rfl
theorem m_nm_sla (u : MS) (v : Int64) : m_nm (sm_la u v) = m_nm u := rfl
theorem m_cd_sla (u : MS) (v : Int64) : m_cd (sm_la u v) = m_cd u := rfl
theorem m_ct_sla (u : MS) (v : Int64) : m_ct (sm_la u v) = m_ct u := rfl
theorem m_lt_sla (u : MS) (v : Int64) : m_lt (sm_la u v) = m_lt u := rfl
theorem m_th_snm (u : MS) (v : Nat → Int32) : m_th (sm_nm u v) = m_th u := rfl
theorem m_g_snm (u : MS) (v : Nat → Int32) : m_g (sm_nm u v) = m_g u := rfl
theorem m_sp_snm (u : MS) (v : Nat → Int32) : m_sp (sm_nm u v) = m_sp u := rfl
theorem m_ta_snm (u : MS) (v : Nat → Int32) : m_ta (sm_nm u v) = m_ta u := rfl
theorem m_mm_snm (u : MS) (v : Nat → Int32) : m_mm (sm_nm u v) = m_mm u := rfl
theorem m_ou_snm (u : MS) (v : Nat → Int32) : m_ou (sm_nm u v) = m_ou u := rfl
theorem m_on_snm (u : MS) (v : Nat → Int32) : m_on (sm_nm u v) = m_on u := rfl
theorem m_pl_snm (u : MS) (v : Nat → Int32) : m_pl (sm_nm u v) = m_pl u := rfl
theorem m_pc_snm (u : MS) (v : Nat → Int32) : m_pc (sm_nm u v) = m_pc u := rfl
theorem m_oo_snm (u : MS) (v : Nat → Int32) : m_oo (sm_nm u v) = m_oo u := rfl
theorem m_me_snm (u : MS) (v : Nat → Int32) : m_me (sm_nm u v) = m_me u := rfl
theorem m_tr_snm (u : MS) (v : Nat → Int32) : m_tr (sm_nm u v) = m_tr u := rfl
theorem m_la_snm (u : MS) (v : Nat → Int32) : m_la (sm_nm u v) = m_la u := rfl
theorem m_nm_snm (u : MS) (v : Nat → Int32) : m_nm (sm_nm u v) = v := rfl
theorem m_cd_snm (u : MS) (v : Nat → Int32) : m_cd (sm_nm u v) = m_cd u := rfl
theorem m_ct_snm (u : MS) (v : Nat → Int32) : m_ct (sm_nm u v) = m_ct u := rfl
theorem m_lt_snm (u : MS) (v : Nat → Int32) : m_lt (sm_nm u v) = m_lt u := rfl
theorem m_th_scd (u : MS) (v : Nat → Int32) : m_th (sm_cd u v) = m_th u := rfl
theorem m_g_scd (u : MS) (v : Nat → Int32) : m_g (sm_cd u v) = m_g u := rfl
theorem m_sp_scd (u : MS) (v : Nat → Int32) : m_sp (sm_cd u v) = m_sp u := rfl
theorem m_ta_scd (u : MS) (v : Nat → Int32) : m_ta (sm_cd u v) = m_ta u := rfl
theorem m_mm_scd (u : MS) (v : Nat → Int32) : m_mm (sm_cd u v) = m_mm u := rfl
theorem m_ou_scd (u : MS) (v : Nat → Int32) : m_ou (sm_cd u v) = m_ou u := rfl
theorem m_on_scd (u : MS) (v : Nat → Int32) : m_on (sm_cd u v) = m_on u := rfl
theorem m_pl_scd (u : MS) (v : Nat → Int32) : m_pl (sm_cd u v) = m_pl u := rfl
theorem m_pc_scd (u : MS) (v : Nat → Int32) : m_pc (sm_cd u v) = m_pc u := rfl
theorem m_oo_scd (u : MS) (v : Nat → Int32) : m_oo (sm_cd u v) = m_oo u := rfl
theorem m_me_scd (u : MS) (v : Nat → Int32) : m_me (sm_cd u v) = m_me u := rfl
theorem m_tr_scd (u : MS) (v : Nat → Int32) : m_tr (sm_cd u v) = m_tr u := rfl
theorem m_la_scd (u : MS) (v : Nat → Int32) : m_la (sm_cd u v) = m_la u := rfl
theorem m_nm_scd (u : MS) (v : Nat → Int32) : m_nm (sm_cd u v) = m_nm u := rfl
theorem m_cd_scd (u : MS) (v : Nat → Int32) : m_cd (sm_cd u v) = v := rfl
theorem m_ct_scd (u : MS) (v : Nat → Int32) : m_ct (sm_cd u v) = m_ct u := rfl
theorem m_lt_scd (u : MS) (v : Nat → Int32) : m_lt (sm_cd u v) = m_lt u := rfl
theorem m_th_sct (u : MS) (v : Int32) : m_th (sm_ct u v) = m_th u := rfl
theorem m_g_sct (u : MS) (v : Int32) : m_g (sm_ct u v) = m_g u := rfl
theorem m_sp_sct (u : MS) (v : Int32) : m_sp (sm_ct u v) = m_sp u := rfl
theorem m_ta_sct (u : MS) (v : Int32) : m_ta (sm_ct u v) = m_ta u := rfl
theorem m_mm_sct (u : MS) (v : Int32) : m_mm (sm_ct u v) = m_mm u := rfl
theorem m_ou_sct (u : MS) (v : Int32) : m_ou (sm_ct u v) = m_ou u := rfl
theorem m_on_sct (u : MS) (v : Int32) : m_on (sm_ct u v) = m_on u := rfl
theorem m_pl_sct (u : MS) (v : Int32) : m_pl (sm_ct u v) = m_pl u := rfl
theorem m_pc_sct (u : MS) (v : Int32) : m_pc (sm_ct u v) = m_pc u := rfl
theorem m_oo_sct (u : MS) (v : Int32) : m_oo (sm_ct u v) = m_oo u := rfl
theorem m_me_sct (u : MS) (v : Int32) : m_me (sm_ct u v) = m_me u := rfl
theorem m_tr_sct (u : MS) (v : Int32) : m_tr (sm_ct u v) = m_tr u := rfl
theorem m_la_sct (u : MS) (v : Int32) : m_la (sm_ct u v) = m_la u := rfl
theorem m_nm_sct (u : MS) (v : Int32) : m_nm (sm_ct u v) = m_nm u := rfl
theorem m_cd_sct (u : MS) (v : Int32) : m_cd (sm_ct u v) = m_cd u := rfl
theorem m_ct_sct (u : MS) (v : Int32) : m_ct (sm_ct u v) = v := rfl
theorem m_lt_sct (u : MS) (v : Int32) : m_lt (sm_ct u v) = m_lt u := rfl
theorem m_th_slt (u : MS) (v : Int32) : m_th (sm_lt u v) = m_th u := rfl
theorem m_g_slt (u : MS) (v : Int32) : m_g (sm_lt u v) = m_g u := rfl
theorem m_sp_slt (u : MS) (v : Int32) : m_sp (sm_lt u v) = m_sp u := rfl
theorem m_ta_slt (u : MS) (v : Int32) : m_ta (sm_lt u v) = m_ta u := rfl
theorem m_mm_slt (u : MS) (v : Int32) : m_mm (sm_lt u v) = m_mm u := rfl
theorem m_ou_slt (u : MS) (v : Int32) : m_ou (sm_lt u v) = m_ou u := rfl
theorem m_on_slt (u : MS) (v : Int32) : m_on (sm_lt u v) = m_on u := rfl
theorem m_pl_slt (u : MS) (v : Int32) : m_pl (sm_lt u v) = m_pl u := rfl
theorem m_pc_slt (u : MS) (v : Int32) : m_pc (sm_lt u v) = m_pc u := rfl
theorem m_oo_slt (u : MS) (v : Int32) : m_oo (sm_lt u v) = m_oo u := rfl
theorem m_me_slt (u : MS) (v : Int32) : m_me (sm_lt u v) = m_me u := rfl
theorem m_tr_slt (u : MS) (v : Int32) : m_tr (sm_lt u v) = m_tr u := rfl
theorem m_la_slt (u : MS) (v : Int32) : m_la (sm_lt u v) = m_la u := rfl
theorem m_nm_slt (u : MS) (v : Int32) : m_nm (sm_lt u v) = m_nm u := rfl
theorem m_cd_slt (u : MS) (v : Int32) : m_cd (sm_lt u v) = m_cd u := rfl
theorem m_ct_slt (u : MS) (v : Int32) : m_ct (sm_lt u v) = m_ct u := rfl
theorem m_lt_slt (u : MS) (v : Int32) : m_lt (sm_lt u v) = v := rfl
/-- array classes: 0 long, 1 byte, 2 int -/
abbrev sT (y : Nat → ClassId) : List (ClassId × FieldType) := [(y 0, .long), (y 1, .byte), (y 2, .int)]
/-- the cells of a MixBench at the addresses a 0 .. a 6 -/
abbrev wX (y : Nat → ClassId) (a : Nat → Nat) (u : XS) : va_W := [(a 0, .inr (1, [.ref (a 1), .ref (a 2), .ref (a 3), .ref (a 4), .ref (a 5), .int (x_ol u), .int (x_pl u), .long (x_pc u), .long (x_oo u), .long (x_me u), .long (x_tr u), .long (x_la u)])), (a 1, .inl (y 0, 256, .inr (.inl (x_g u)))), (a 2, .inl (y 0, 8, .inr (.inl (x_sp u)))), (a 3, .inl (y 0, 256, .inr (.inl (x_ta u)))), (a 4, .inl (y 1, 500, .inl (x_ob u))), (a 5, .inr (0, [.ref (a 6)])), (a 6, .inl (y 0, 2048, .inr (.inl (x_oc u))))]
/-- the cells of a MixBenchModel at the addresses a 0 .. a 7 -/
abbrev wM (y : Nat → ClassId) (a : Nat → Nat) (u : MS) : va_W := [(a 0, .inr (2, [.int (m_th u), .ref (a 1), .ref (a 2), .ref (a 3), .ref (a 4), .ref (a 5), .int (m_on u), .int (m_pl u), .long (m_pc u), .long (m_oo u), .long (m_me u), .long (m_tr u), .long (m_la u), .ref (a 6), .ref (a 7), .int (m_ct u), .int (m_lt u)])), (a 1, .inl (y 0, 256, .inr (.inl (m_g u)))), (a 2, .inl (y 0, 8, .inr (.inl (m_sp u)))), (a 3, .inl (y 0, 256, .inr (.inl (m_ta u)))), (a 4, .inl (y 1, 16384, .inl (m_mm u))), (a 5, .inl (y 1, 500, .inl (m_ou u))), (a 6, .inl (y 2, 400, .inl (m_nm u))), (a 7, .inl (y 2, 400, .inl (m_cd u)))]
/-! shifts as the machine has them -/
abbrev jushr (x y : Int32) : Int32 := (x.toUInt32 >>> (y.toUInt32 &&& Int32.toUInt32 31)).toInt32
abbrev jlushr (x : Int64) (y : Int32) : Int64 := (x.toUInt64 >>> (y.toInt64.toUInt64 &&& Int64.toUInt64 63)).toInt64
abbrev jlshl (x : Int64) (y : Int32) : Int64 := x <<< (y.toInt64 &&& 63)
abbrev jlshr (x : Int64) (y : Int32) : Int64 := x >>> (y.toInt64 &&& 63)
abbrev jshl (x y : Int32) : Int32 := x <<< (y &&& 31)
abbrev jshr (x y : Int32) : Int32 := x >>> (y &&& 31)
/-! contracts: a start, an end -/
def eTrue : (Nat → Prop) → State → Prop := fun _ _ => True
/-- an environment: what a method needs of the state beside its world (tables, texts, statics outside the cells A); it moves along -/
def eBl (E : (Nat → Prop) → State → Prop) : Prop := (∀ (A : Nat → Prop) (a : Array Value) (U : State) (g : JFrame) (mk : MethodId), E A U → E A (U.calling g mk a)) ∧ ∀ (A B : Nat → Prop) (s U : State), s.WarmedH U.vm → (∀ q : Nat, q < s.heap.size → ¬ A q → U.heap[q]? = s.heap[q]?) → (∀ q, B q → A q) → E A s → E B U
theorem eTrue_bl : eBl eTrue := ⟨fun _ _ _ _ _ _ => trivial, fun _ _ _ _ _ _ _ _ => trivial⟩
def gSt {S : Type} (G : va_G) (ty : List (ClassId × FieldType)) (w : S → va_W) (sz : Nat) (u : S) (E : (Nat → Prop) → State → Prop) (U : State) : Prop := U.heap.size = sz ∧ va_P G vwCl (w u) U.heap ∧ va_K G vwCl ty U ∧ va_D (fun _ => True) (w u) ∧ E (va_A (w u) sz) U
def gEn {S : Type} (G : va_G) (w : S → va_W) (A : Nat → Prop) (u : S) (t : State) : Prop := va_P G vwCl (w u) t.heap ∧ va_D A (w u)
theorem gSt_blind {S : Type} {G : va_G} {ty : List (ClassId × FieldType)} {w : S → va_W} {sz : Nat} {u : S} {E : (Nat → Prop) → State → Prop} {av : List Value} (hE : eBl E) : FrameBlind (va_Pc av (gSt G ty w sz u E)) := fun a U g mk q => by
  obtain ⟨q0, q1, qP, qK, qD, qE⟩ := q
  exact ⟨q0, q1, qP, va_K.moved (u := U) (U := U.calling g mk a) (Vm.Alike.refl U.vm) qK, qD, hE.1 _ _ _ _ _ qE⟩
abbrev gQi {S : Type} (w : S → va_W) (f : Int32 × S) (G : va_G) (A : Nat → Prop) : Array Value → State → Outcome → State → Prop := va_Qi (fun r u' => r = f.1 ∧ u' = f.2) (gEn G w A) A
abbrev gQl {S : Type} (w : S → va_W) (f : Int64 × S) (G : va_G) (A : Nat → Prop) : Array Value → State → Outcome → State → Prop := va_Ql (fun r u' => r = f.1 ∧ u' = f.2) (gEn G w A) A
abbrev gQv {S : Type} (w : S → va_W) (f : S) (G : va_G) (A : Nat → Prop) : Array Value → State → Outcome → State → Prop := va_Qv (fun u' => u' = f) (gEn G w A) A
/-- a method over a world w at u, environment E, arguments av: what it answers and leaves (f) -/
abbrev gMi {S : Type} (l : Launch) (y : MethodName) (ws : List Cond) (rm : Room) (E : (Nat → Prop) → State → Prop) (ty : List (ClassId × FieldType)) (w : S → va_W) (av : List Value) (u : S) (f : Int32 × S) : Prop := ∀ (G : va_G) (sz : Nat), Met l y ws rm (va_Pc av (gSt G ty w sz u E)) (gQi w f G (va_A (w u) sz)) 0 0 (va_A (w u) sz)
abbrev gMl {S : Type} (l : Launch) (y : MethodName) (ws : List Cond) (rm : Room) (E : (Nat → Prop) → State → Prop) (ty : List (ClassId × FieldType)) (w : S → va_W) (av : List Value) (u : S) (f : Int64 × S) : Prop := ∀ (G : va_G) (sz : Nat), Met l y ws rm (va_Pc av (gSt G ty w sz u E)) (gQl w f G (va_A (w u) sz)) 0 0 (va_A (w u) sz)
abbrev gMv {S : Type} (l : Launch) (y : MethodName) (ws : List Cond) (rm : Room) (E : (Nat → Prop) → State → Prop) (ty : List (ClassId × FieldType)) (w : S → va_W) (av : List Value) (u : S) (f : S) : Prop := ∀ (G : va_G) (sz : Nat), Met l y ws rm (va_Pc av (gSt G ty w sz u E)) (gQv w f G (va_A (w u) sz)) 0 0 (va_A (w u) sz)
/-- a method without a world -/
abbrev pMi (l : Launch) (y : MethodName) (ws : List Cond) (rm : Room) (E : (Nat → Prop) → State → Prop) (av : List Value) (f : Int32) : Prop := Met l y ws rm (va_Pc av (E (fun _ => False))) (vp_Si (fun r => r = f)) 0 0 (fun _ => False)
abbrev pMl (l : Launch) (y : MethodName) (ws : List Cond) (rm : Room) (E : (Nat → Prop) → State → Prop) (av : List Value) (f : Int64) : Prop := Met l y ws rm (va_Pc av (E (fun _ => False))) (vp_Sl (fun r => r = f)) 0 0 (fun _ => False)
theorem gm_ofW {S : Type} {l : Launch} {y : MethodName} {ws ws' : List Cond} {rm : Room} {E : (Nat → Prop) → State → Prop} {ty : List (ClassId × FieldType)} {w : S → va_W} {av : List Value} {u : S} {cc : ByteArray} {maxL : Nat} {ret : Option FieldType} {Qc : va_G → (Nat → Prop) → Array Value → State → Outcome → State → Prop} (hy : plainName y.cls = true) (hw : ws = Cond.code y cc maxL ret :: ws') (hn : (lg_sl av).length ≤ maxL)
    (body : ∀ (G : va_G) (A : Nat → Prop) (p : Program) (e : Env) (s : State) (m : MethodId) (args : Array Value) (below : List Frame) (meth : Method) (c : Code), p.tables.exec = Jvm.exec → c.code = cc → meth.sig.returnType = ret → c.maxLocals = maxL → (∀ x ∈ ws, x.before args s = true) → s.vm.findClass y.cls = some m.cls → meth.locks = false → va_K G vwCl ty s → E A s → (∀ q : Nat, s.heap.size ≤ q → A q) → ∀ (H : Heap) (locs : List Loc), va_P G vwCl (w u) H → va_D A (w u) → va_S A s.heap H locs → ∀ ls : Array Slot, lv_has ls maxL (lv_args 0 av) → W p l e rm s m args below meth c H locs 0 0 (MQ below (Qc G A) args s 0 0 A) (F0 m 0 ls [])) :
    ∀ (G : va_G) (sz : Nat), Met l y ws rm (va_Pc av (gSt G ty w sz u E)) (Qc G (va_A (w u) sz)) 0 0 (va_A (w u) sz) := by
  intro G sz
  refine Met.ofW (cc := cc) (maxL := maxL) (ret := ret) hy hw ?_
  intro p e s m args below meth c s₁ B hml hv
  obtain ⟨rfl, hsz, hP, hK, hD0, hE⟩ := hv
  subst hsz
  have hl := lv_entry av (n := maxL) hn
  rw [lg_entry_eq]
  exact body G (va_A (w u) s.heap.size) p e s m _ below meth c B.exec B.bytes B.returns hml (atoms_spec (ws := ws) B.pre) (findClass_of_methodNamed B.named) B.notSynchronized hK hE (fun q h => Or.inr h) _ _ hP (hD0.self (sz := s.heap.size)) va_S.rf _ hl
theorem pm_ofW {l : Launch} {y : MethodName} {ws ws' : List Cond} {rm : Room} {E : (Nat → Prop) → State → Prop} {av : List Value} {cc : ByteArray} {maxL : Nat} {ret : Option FieldType} {Qc : Array Value → State → Outcome → State → Prop} (hy : plainName y.cls = true) (hw : ws = Cond.code y cc maxL ret :: ws') (hn : (lg_sl av).length ≤ maxL)
    (body : ∀ (p : Program) (e : Env) (s : State) (m : MethodId) (args : Array Value) (below : List Frame) (meth : Method) (c : Code), p.tables.exec = Jvm.exec → c.code = cc → meth.sig.returnType = ret → c.maxLocals = maxL → (∀ x ∈ ws, x.before args s = true) → s.vm.findClass y.cls = some m.cls → meth.locks = false → E (fun _ => False) s → ∀ ls : Array Slot, lv_has ls maxL (lv_args 0 av) → W p l e rm s m args below meth c s.heap [] 0 0 (MQ below Qc args s 0 0 (fun _ => False)) (F0 m 0 ls [])) :
    Met l y ws rm (va_Pc av (E (fun _ => False))) Qc 0 0 (fun _ => False) := by
  refine Met.ofW (cc := cc) (maxL := maxL) (ret := ret) hy hw ?_
  intro p e s m args below meth c s₁ B hml hv
  obtain ⟨rfl, hE⟩ := hv
  have hl := lv_entry av (n := maxL) hn
  rw [lg_entry_eq]
  exact body p e s m _ below meth c B.exec B.bytes B.returns hml (atoms_spec (ws := ws) B.pre) (findClass_of_methodNamed B.named) B.notSynchronized hE _ hl
section GCALL
variable {p : Program} {l : Launch} {e : Env} {R : Room} {s : State} {m : MethodId} {args : Array Value} {below : List Frame} {meth : Method} {c : Code} {H : Heap} {locs : List Loc} {cells slots : Nat} {Q : State → Prop}
variable {cc : ByteArray} {pc : Nat} {ls : Array Slot} {rest st0 : List Value} {av : Array Value} {A : Nat → Prop}
/-! lcmp and the branch behind it -/
theorem lgc_eq (x y : Int64) : lg_cmp x y = 0 ↔ x = y := by
  unfold lg_cmp
  simp only [gt_iff_lt, Int64.lt_iff_toInt_lt, ← Int64.toInt_inj]
  split
  · simp; omega
  · split
    · simp; assumption
    · simp; assumption
theorem lgc_lt (x y : Int64) : lg_cmp x y < 0 ↔ x < y := by
  unfold lg_cmp
  simp only [gt_iff_lt, Int64.lt_iff_toInt_lt, ← Int64.toInt_inj]
  split
  · constructor
    · intro h; exact absurd h (by decide)
    · intro h; omega
  · split
    · constructor
      · intro h; exact absurd h (by decide)
      · intro h; omega
    · constructor
      · intro h; omega
      · intro h; decide
theorem lgc_gt (x y : Int64) : 0 < lg_cmp x y ↔ y < x := by
  unfold lg_cmp
  simp only [gt_iff_lt, Int64.lt_iff_toInt_lt, ← Int64.toInt_inj]
  split
  · constructor
    · intro h; assumption
    · intro h; decide
  · split
    · constructor
      · intro h; exact absurd h (by decide)
      · intro h; omega
    · constructor
      · intro h; exact absurd h (by decide)
      · intro h; omega
theorem lgc_ge (x y : Int64) : 0 ≤ lg_cmp x y ↔ y ≤ x := lg_cmp_ge x y
theorem lgc_le (x y : Int64) : lg_cmp x y ≤ 0 ↔ x ≤ y := by
  rw [← Int32.not_lt, lgc_gt, Int64.not_lt]
theorem lc_eq (hexec : p.tables.exec = Jvm.exec) (hb : c.code = cc) {x y : Int64} {off : Int} {tgt : Nat} (h1 : decode cc pc = .ok (.lcmp, 1)) (hdg : decode cc (pc + 1) = .ok (.ifCond .eq off, 3)) (ht : ((pc + 1 : Nat) : Int) + off = (tgt : Int))
    (kt : x = y → W p l e R s m args below meth c H locs cells slots Q (F0 m tgt ls rest)) (kf : ¬ x = y → W p l e R s m args below meth c H locs cells slots Q (F0 m (pc + 4) ls rest)) : W p l e R s m args below meth c H locs cells slots Q (F0 m pc ls (.long y :: .long x :: rest)) :=
  W.lcmp hexec hb h1 (lv_if_eq hexec hb hdg ht (fun h => kt ((lgc_eq x y).mp h)) (fun h => kf (fun q => h ((lgc_eq x y).mpr q))))
theorem lc_ne (hexec : p.tables.exec = Jvm.exec) (hb : c.code = cc) {x y : Int64} {off : Int} {tgt : Nat} (h1 : decode cc pc = .ok (.lcmp, 1)) (hdg : decode cc (pc + 1) = .ok (.ifCond .ne off, 3)) (ht : ((pc + 1 : Nat) : Int) + off = (tgt : Int))
    (kt : ¬ x = y → W p l e R s m args below meth c H locs cells slots Q (F0 m tgt ls rest)) (kf : x = y → W p l e R s m args below meth c H locs cells slots Q (F0 m (pc + 4) ls rest)) : W p l e R s m args below meth c H locs cells slots Q (F0 m pc ls (.long y :: .long x :: rest)) :=
  W.lcmp hexec hb h1 (lv_if_ne hexec hb hdg ht (fun h => kt (fun q => h ((lgc_eq x y).mpr q))) (fun h => kf ((lgc_eq x y).mp h)))
theorem lc_lt (hexec : p.tables.exec = Jvm.exec) (hb : c.code = cc) {x y : Int64} {off : Int} {tgt : Nat} (h1 : decode cc pc = .ok (.lcmp, 1)) (hdg : decode cc (pc + 1) = .ok (.ifCond .lt off, 3)) (ht : ((pc + 1 : Nat) : Int) + off = (tgt : Int))
    (kt : x < y → W p l e R s m args below meth c H locs cells slots Q (F0 m tgt ls rest)) (kf : ¬ x < y → W p l e R s m args below meth c H locs cells slots Q (F0 m (pc + 4) ls rest)) : W p l e R s m args below meth c H locs cells slots Q (F0 m pc ls (.long y :: .long x :: rest)) :=
  W.lcmp hexec hb h1 (lv_if_lt hexec hb hdg ht (fun h => kt ((lgc_lt x y).mp h)) (fun h => kf (fun q => h ((lgc_lt x y).mpr q))))
theorem lc_ge (hexec : p.tables.exec = Jvm.exec) (hb : c.code = cc) {x y : Int64} {off : Int} {tgt : Nat} (h1 : decode cc pc = .ok (.lcmp, 1)) (hdg : decode cc (pc + 1) = .ok (.ifCond .ge off, 3)) (ht : ((pc + 1 : Nat) : Int) + off = (tgt : Int))
    (kt : y ≤ x → W p l e R s m args below meth c H locs cells slots Q (F0 m tgt ls rest)) (kf : ¬ y ≤ x → W p l e R s m args below meth c H locs cells slots Q (F0 m (pc + 4) ls rest)) : W p l e R s m args below meth c H locs cells slots Q (F0 m pc ls (.long y :: .long x :: rest)) :=
  W.lcmp hexec hb h1 (lv_if_ge hexec hb hdg ht (fun h => kt ((lgc_ge x y).mp h)) (fun h => kf (fun q => h ((lgc_ge x y).mpr q))))
theorem lc_gt (hexec : p.tables.exec = Jvm.exec) (hb : c.code = cc) {x y : Int64} {off : Int} {tgt : Nat} (h1 : decode cc pc = .ok (.lcmp, 1)) (hdg : decode cc (pc + 1) = .ok (.ifCond .gt off, 3)) (ht : ((pc + 1 : Nat) : Int) + off = (tgt : Int))
    (kt : y < x → W p l e R s m args below meth c H locs cells slots Q (F0 m tgt ls rest)) (kf : ¬ y < x → W p l e R s m args below meth c H locs cells slots Q (F0 m (pc + 4) ls rest)) : W p l e R s m args below meth c H locs cells slots Q (F0 m pc ls (.long y :: .long x :: rest)) :=
  W.lcmp hexec hb h1 (lv_if_gt hexec hb hdg ht (fun h => kt ((lgc_gt x y).mp h)) (fun h => kf (fun q => h ((lgc_gt x y).mpr q))))
theorem lc_le (hexec : p.tables.exec = Jvm.exec) (hb : c.code = cc) {x y : Int64} {off : Int} {tgt : Nat} (h1 : decode cc pc = .ok (.lcmp, 1)) (hdg : decode cc (pc + 1) = .ok (.ifCond .le off, 3)) (ht : ((pc + 1 : Nat) : Int) + off = (tgt : Int))
    (kt : x ≤ y → W p l e R s m args below meth c H locs cells slots Q (F0 m tgt ls rest)) (kf : ¬ x ≤ y → W p l e R s m args below meth c H locs cells slots Q (F0 m (pc + 4) ls rest)) : W p l e R s m args below meth c H locs cells slots Q (F0 m pc ls (.long y :: .long x :: rest)) :=
  W.lcmp hexec hb h1 (lv_if_le hexec hb hdg ht (fun h => kt ((lgc_le x y).mp h)) (fun h => kf (fun q => h ((lgc_le x y).mpr q))))
/-! calls -/
theorem g_free {S : Type} {w : S → va_W} {u : S} (hD : va_D A (w u)) (hS : va_S A s.heap H locs) (hA : ∀ q : Nat, s.heap.size ≤ q → A q) : ∀ q, va_A (w u) H.size q → A q := by
  intro q h
  rcases h with ⟨k, e, h⟩ | h
  · exact hD.2 k (q, e) h
  · exact hA q (Nat.le_trans hS.1 h)
theorem g_i {S : Type} {G : va_G} {w : S → va_W} {u : S} {f : Int32 × S} (hr : va_Run p l e R s m args below meth c H locs cells slots 0 0 (F0 m pc ls st0) rest (gQi w f G (va_A (w u) H.size) av) (va_A (w u) H.size)) (hD : va_D A (w u)) (hS : va_S A s.heap H locs) (hA : ∀ q : Nat, s.heap.size ≤ q → A q)
    (kk : ∀ (H1 : Heap) (locs1 : List Loc), va_P G vwCl (w f.2) H1 → va_D A (w f.2) → va_S A s.heap H1 locs1 → W p l e R s m args below meth c H1 locs1 cells slots Q (F0 m (pc + 3) ls (.int f.1 :: rest))) : W p l e R s m args below meth c H locs cells slots Q (F0 m pc ls st0) := by
  have hF := g_free hD hS hA
  refine va_calli hr hS (fun q _ h => hF q h) hF (fun r u' t H1 locs1 ht hvm hw hB hz hk hS1 => ?_)
  obtain ⟨rfl, rfl⟩ := hw
  obtain ⟨hP1, hD1⟩ := hB
  rw [ht] at hP1
  exact kk H1 locs1 hP1 (hD1.weaken (fun k q _ h => hF q.1 h)) hS1
theorem g_l {S : Type} {G : va_G} {w : S → va_W} {u : S} {f : Int64 × S} (hr : va_Run p l e R s m args below meth c H locs cells slots 0 0 (F0 m pc ls st0) rest (gQl w f G (va_A (w u) H.size) av) (va_A (w u) H.size)) (hD : va_D A (w u)) (hS : va_S A s.heap H locs) (hA : ∀ q : Nat, s.heap.size ≤ q → A q)
    (kk : ∀ (H1 : Heap) (locs1 : List Loc), va_P G vwCl (w f.2) H1 → va_D A (w f.2) → va_S A s.heap H1 locs1 → W p l e R s m args below meth c H1 locs1 cells slots Q (F0 m (pc + 3) ls (.long f.1 :: rest))) : W p l e R s m args below meth c H locs cells slots Q (F0 m pc ls st0) := by
  have hF := g_free hD hS hA
  refine va_calll hr hS (fun q _ h => hF q h) hF (fun r u' t H1 locs1 ht hvm hw hB hz hk hS1 => ?_)
  obtain ⟨rfl, rfl⟩ := hw
  obtain ⟨hP1, hD1⟩ := hB
  rw [ht] at hP1
  exact kk H1 locs1 hP1 (hD1.weaken (fun k q _ h => hF q.1 h)) hS1
theorem g_v {S : Type} {G : va_G} {w : S → va_W} {u : S} {f : S} (hr : va_Run p l e R s m args below meth c H locs cells slots 0 0 (F0 m pc ls st0) rest (gQv w f G (va_A (w u) H.size) av) (va_A (w u) H.size)) (hD : va_D A (w u)) (hS : va_S A s.heap H locs) (hA : ∀ q : Nat, s.heap.size ≤ q → A q)
    (kk : ∀ (H1 : Heap) (locs1 : List Loc), va_P G vwCl (w f) H1 → va_D A (w f) → va_S A s.heap H1 locs1 → W p l e R s m args below meth c H1 locs1 cells slots Q (F0 m (pc + 3) ls rest)) : W p l e R s m args below meth c H locs cells slots Q (F0 m pc ls st0) := by
  have hF := g_free hD hS hA
  refine va_callv hr hS (fun q _ h => hF q h) hF (fun u' t H1 locs1 ht hvm hw hB hz hk hS1 => ?_)
  subst hw
  obtain ⟨hP1, hD1⟩ := hB
  rw [ht] at hP1
  exact kk H1 locs1 hP1 (hD1.weaken (fun k q _ h => hF q.1 h)) hS1
theorem g_run {mc ms : Nat} {g : JFrame} {Qa : State → Outcome → State → Prop} {free : Addr → Prop} (h : va_Run p l e R s m args below meth c H locs cells slots mc ms g rest Qa free) : CallRun p l e R s m args below meth c H locs cells slots mc ms g rest Qa free := by
  intro T hT X
  obtain ⟨v, st₀, t, T', L, h0, X', hL, e1, -, hq, st⟩ := h T hT X
  exact ⟨v, st₀, t, T', L, h0, X', hL, e1, hq, st⟩
/-- what a call over a world needs of its start -/
theorem g_preS {S : Type} {G : va_G} {ty : List (ClassId × FieldType)} {w : S → va_W} {u : S} {E : (Nat → Prop) → State → Prop} {As : List Value} (hE : eBl E) (hK : va_K G vwCl ty s) (hs : E A s) (hP : va_P G vwCl (w u) H) (hD : va_D A (w u)) (hS : va_S A s.heap H locs) (hA : ∀ q : Nat, s.heap.size ≤ q → A q) : PreS s H (va_Pc As (gSt G ty w H.size u E)) As := ⟨gSt_blind hE, fun U hU hW => ⟨rfl, by rw [hU], by rw [hU]; exact hP, va_K.moved hW.alike hK, hD.weaken (fun _ _ _ _ => trivial), hE.2 A _ _ _ hW (fun q h1 h2 => by rw [hU]; exact hS.2.1 q h1 h2) (g_free hD hS hA) hs⟩⟩
theorem g_preV {S : Type} {G : va_G} {ty : List (ClassId × FieldType)} {w : S → va_W} {u : S} {E : (Nat → Prop) → State → Prop} {b : Nat} {As : List Value} (hE : eBl E) (hK : va_K G vwCl ty s) (hs : E A s) (hP : va_P G vwCl (w u) H) (hD : va_D A (w u)) (hS : va_S A s.heap H locs) (hA : ∀ q : Nat, s.heap.size ≤ q → A q) (q0 : Nat) {ci : Nat} {q : vw_C} {fs : List Value} (hc : vwCl[ci]? = some q) (he : (w u)[q0]? = some (b, .inr (ci, fs))) : PreV s H q.1 b (va_Pc (.ref b :: As) (gSt G ty w H.size u E)) As := ⟨gSt_blind hE, va_recv hK hP hc he, fun U hU hW => ⟨rfl, by rw [hU], by rw [hU]; exact hP, va_K.moved hW.alike hK, hD.weaken (fun _ _ _ _ => trivial), hE.2 A _ _ _ hW (fun q h1 h2 => by rw [hU]; exact hS.2.1 q h1 h2) (g_free hD hS hA) hs⟩⟩
theorem p_blind {E : (Nat → Prop) → State → Prop} {As : List Value} (hE : eBl E) : FrameBlind (va_Pc As (E (fun _ => False))) := fun a U g mk q => by
  obtain ⟨q0, q1⟩ := q
  exact ⟨q0, hE.1 _ _ _ _ _ q1⟩
theorem p_preT {As : List Value} : PreS s H (va_Pc As (eTrue (fun _ => False))) As := ⟨p_blind eTrue_bl, fun U hU hW => ⟨rfl, trivial⟩⟩
theorem p_preS {E : (Nat → Prop) → State → Prop} {As : List Value} (hE : eBl E) (hs : E (fun _ => False) s) : PreS s s.heap (va_Pc As (E (fun _ => False))) As := ⟨p_blind hE, fun U hU hW => ⟨rfl, hE.2 _ _ _ _ hW (fun q _ _ => by rw [hU]) (fun _ h => h) hs⟩⟩
theorem p_preG {E : (Nat → Prop) → State → Prop} {As : List Value} (hE : eBl E) (hs : E A s) (hS : va_S A s.heap H locs) : PreS s H (va_Pc As (E (fun _ => False))) As := ⟨p_blind hE, fun U hU hW => ⟨rfl, hE.2 A _ _ _ hW (fun q h1 h2 => by rw [hU]; exact hS.2.1 q h1 h2) (fun _ h => h.elim) hs⟩⟩
theorem p_i {f : Int32} (hr : CallRun p l e R s m args below meth c H locs cells slots 0 0 (F0 m pc ls st0) rest (vp_Si (fun r => r = f) av) (fun _ => False)) (kk : W p l e R s m args below meth c H locs cells slots Q (F0 m (pc + 3) ls (.int f :: rest))) : W p l e R s m args below meth c H locs cells slots Q (F0 m pc ls st0) := vp_callSi hr (fun r h => by rw [h]; exact kk)
theorem p_l {f : Int64} (hr : CallRun p l e R s m args below meth c H locs cells slots 0 0 (F0 m pc ls st0) rest (vp_Sl (fun r => r = f) av) (fun _ => False)) (kk : W p l e R s m args below meth c H locs cells slots Q (F0 m (pc + 3) ls (.long f :: rest))) : W p l e R s m args below meth c H locs cells slots Q (F0 m pc ls st0) := vp_callSl hr (fun r h => by rw [h]; exact kk)
/-! ends -/
theorem g_iret {S : Type} {G : va_G} {w : S → va_W} {u : S} {f : Int32 × S} {v : Int32} (hf : f = (v, u)) (hexec : p.tables.exec = Jvm.exec) (hb : c.code = cc) (hr : meth.sig.returnType = some .int) (hP : va_P G vwCl (w u) H) (hD : va_D A (w u)) (hS : va_S A s.heap H locs) (hlocks : meth.locks = false) (hdg : decode cc pc = .ok (.ireturn, 1)) : W p l e R s m args below meth c H locs 0 0 (MQ below (gQi w f G A) args s 0 0 A) (F0 m pc ls [.int v]) :=
  W.iret hexec hb hr (fun t ht hW => ⟨⟨v, u, rfl, ⟨by rw [hf], by rw [hf]⟩, by rw [gEn, ht]; exact ⟨hP, hD⟩⟩, hS.F ht⟩) hS.2.2 hdg hlocks
theorem g_zret {S : Type} {G : va_G} {w : S → va_W} {u : S} {f : Int32 × S} {v : Int32} {ty : FieldType} (hf : f = (v, u)) (hexec : p.tables.exec = Jvm.exec) (hb : c.code = cc) (hr : meth.sig.returnType = some ty) (hn : narrow ty (.int v) = .int v) (hP : va_P G vwCl (w u) H) (hD : va_D A (w u)) (hS : va_S A s.heap H locs) (hlocks : meth.locks = false) (hdg : decode cc pc = .ok (.ireturn, 1)) : W p l e R s m args below meth c H locs 0 0 (MQ below (gQi w f G A) args s 0 0 A) (F0 m pc ls [.int v]) :=
  W.zret hexec hb hr hn (fun t ht hW => ⟨⟨v, u, rfl, ⟨by rw [hf], by rw [hf]⟩, by rw [gEn, ht]; exact ⟨hP, hD⟩⟩, hS.F ht⟩) hS.2.2 hdg hlocks
theorem g_lret {S : Type} {G : va_G} {w : S → va_W} {u : S} {f : Int64 × S} {v : Int64} (hf : f = (v, u)) (hexec : p.tables.exec = Jvm.exec) (hb : c.code = cc) (hr : meth.sig.returnType = some .long) (hP : va_P G vwCl (w u) H) (hD : va_D A (w u)) (hS : va_S A s.heap H locs) (hlocks : meth.locks = false) (hdg : decode cc pc = .ok (.lreturn, 1)) : W p l e R s m args below meth c H locs 0 0 (MQ below (gQl w f G A) args s 0 0 A) (F0 m pc ls [.long v]) :=
  W.lret hexec hb hr (fun t ht hW => ⟨⟨v, u, rfl, ⟨by rw [hf], by rw [hf]⟩, by rw [gEn, ht]; exact ⟨hP, hD⟩⟩, hS.F ht⟩) hS.2.2 hdg hlocks
theorem g_vret {S : Type} {G : va_G} {w : S → va_W} {u : S} {f : S} (hf : f = u) (hexec : p.tables.exec = Jvm.exec) (hb : c.code = cc) (hr : meth.sig.returnType = none) (hP : va_P G vwCl (w u) H) (hD : va_D A (w u)) (hS : va_S A s.heap H locs) (hlocks : meth.locks = false) (hdg : decode cc pc = .ok (.return_, 1)) : W p l e R s m args below meth c H locs 0 0 (MQ below (gQv w f G A) args s 0 0 A) (F0 m pc ls []) :=
  W.vret hexec hb hr (fun t ht hW => ⟨⟨u, rfl, by rw [hf], by rw [gEn, ht]; exact ⟨hP, hD⟩⟩, hS.F ht⟩) hS.2.2 hdg hlocks
theorem p_iret {f v : Int32} (hf : f = v) (hexec : p.tables.exec = Jvm.exec) (hb : c.code = cc) (hr : meth.sig.returnType = some .int) (hlocks : meth.locks = false) (hdg : decode cc pc = .ok (.ireturn, 1)) : W p l e R s m args below meth c s.heap [] 0 0 (MQ below (vp_Si (fun r => r = f)) args s 0 0 (fun _ => False)) (F0 m pc ls [.int v]) :=
  W.iret hexec hb hr (fun t ht hW => ⟨v, rfl, hf.symm, ht⟩) (fun q hq => by cases hq) hdg hlocks
theorem p_zret {f v : Int32} {ty : FieldType} (hf : f = v) (hexec : p.tables.exec = Jvm.exec) (hb : c.code = cc) (hr : meth.sig.returnType = some ty) (hn : narrow ty (.int v) = .int v) (hlocks : meth.locks = false) (hdg : decode cc pc = .ok (.ireturn, 1)) : W p l e R s m args below meth c s.heap [] 0 0 (MQ below (vp_Si (fun r => r = f)) args s 0 0 (fun _ => False)) (F0 m pc ls [.int v]) :=
  W.zret hexec hb hr hn (fun t ht hW => ⟨v, rfl, hf.symm, ht⟩) (fun q hq => by cases hq) hdg hlocks
theorem p_lret {f v : Int64} (hf : f = v) (hexec : p.tables.exec = Jvm.exec) (hb : c.code = cc) (hr : meth.sig.returnType = some .long) (hlocks : meth.locks = false) (hdg : decode cc pc = .ok (.lreturn, 1)) : W p l e R s m args below meth c s.heap [] 0 0 (MQ below (vp_Sl (fun r => r = f)) args s 0 0 (fun _ => False)) (F0 m pc ls [.long v]) :=
  W.lret hexec hb hr (fun t ht hW => ⟨v, rfl, hf.symm, ht⟩) (fun q hq => by cases hq) hdg hlocks
theorem s_ro {α S : Type} {x y : α} {u : S} (h : x = y) : (x, u) = (y, u) := by rw [h]
/-! methods that may throw: f = (0, answer, state) or (k, _, state) with k the kind of the exception -/
def exn (k : Int32) : String := if k = 1 then "java/util/NoSuchElementException" else if k = 2 then "java/lang/IndexOutOfBoundsException" else "java/lang/IllegalArgumentException"
abbrev gxQi {S : Type} (w : S → va_W) (f : Int32 × Int32 × S) (G : va_G) (A : Nat → Prop) : Array Value → State → Outcome → State → Prop := va_Qi (fun r u' => f.1 = 0 ∧ r = f.2.1 ∧ u' = f.2.2) (gEn G w A) A
abbrev gxQl {S : Type} (w : S → va_W) (f : Int32 × Int64 × S) (G : va_G) (A : Nat → Prop) : Array Value → State → Outcome → State → Prop := va_Ql (fun r u' => f.1 = 0 ∧ r = f.2.1 ∧ u' = f.2.2) (gEn G w A) A
abbrev gxX {V S : Type} (w : S → va_W) (f : Int32 × V × S) (G : va_G) (A : Nat → Prop) : String → State → State → Prop := vx_X (fun u' => ¬ f.1 = 0 ∧ u' = f.2.2) (fun E u' t => E = exn f.1 ∧ gEn G w A u' t) A
abbrev gxMi {S : Type} (l : Launch) (y : MethodName) (ws : List Cond) (rm : Room) (E : (Nat → Prop) → State → Prop) (ty : List (ClassId × FieldType)) (w : S → va_W) (av : List Value) (u : S) (f : Int32 × Int32 × S) : Prop := ∀ (G : va_G) (sz : Nat), vx_Met l y ws rm (va_Pc av (gSt G ty w sz u E)) (gxQi w f G (va_A (w u) sz)) (gxX w f G (va_A (w u) sz)) 1 6 (va_A (w u) sz)
abbrev gxMl {S : Type} (l : Launch) (y : MethodName) (ws : List Cond) (rm : Room) (E : (Nat → Prop) → State → Prop) (ty : List (ClassId × FieldType)) (w : S → va_W) (av : List Value) (u : S) (f : Int32 × Int64 × S) : Prop := ∀ (G : va_G) (sz : Nat), vx_Met l y ws rm (va_Pc av (gSt G ty w sz u E)) (gxQl w f G (va_A (w u) sz)) (gxX w f G (va_A (w u) sz)) 1 6 (va_A (w u) sz)
theorem gx_iret {S : Type} {G : va_G} {w : S → va_W} {u : S} {f : Int32 × Int32 × S} {v : Int32} {XC : String → State → State → Prop} (hf : f = (0, v, u)) (hexec : p.tables.exec = Jvm.exec) (hb : c.code = cc) (hr : meth.sig.returnType = some .int) (hP : va_P G vwCl (w u) H) (hD : va_D A (w u)) (hS : va_S A s.heap H locs) (hlocks : meth.locks = false) (hdg : decode cc pc = .ok (.ireturn, 1)) : W p l e R s m args below meth c H locs 0 0 (vx_MQ below (gxQi w f G A) XC args s 1 6 A) (F0 m pc ls [.int v]) :=
  vx_ret (W.widen (k := 1) (n := 6) (Nat.zero_le _) (Nat.zero_le _) (W.iret hexec hb hr (fun t ht hW => ⟨⟨v, u, rfl, ⟨by rw [hf], by rw [hf], by rw [hf]⟩, by rw [gEn, ht]; exact ⟨hP, hD⟩⟩, hS.F ht⟩) hS.2.2 hdg hlocks))
theorem gx_lret {S : Type} {G : va_G} {w : S → va_W} {u : S} {f : Int32 × Int64 × S} {v : Int64} {XC : String → State → State → Prop} (hf : f = (0, v, u)) (hexec : p.tables.exec = Jvm.exec) (hb : c.code = cc) (hr : meth.sig.returnType = some .long) (hP : va_P G vwCl (w u) H) (hD : va_D A (w u)) (hS : va_S A s.heap H locs) (hlocks : meth.locks = false) (hdg : decode cc pc = .ok (.lreturn, 1)) : W p l e R s m args below meth c H locs 0 0 (vx_MQ below (gxQl w f G A) XC args s 1 6 A) (F0 m pc ls [.long v]) :=
  vx_ret (W.widen (k := 1) (n := 6) (Nat.zero_le _) (Nat.zero_le _) (W.lret hexec hb hr (fun t ht hW => ⟨⟨v, u, rfl, ⟨by rw [hf], by rw [hf], by rw [hf]⟩, by rw [gEn, ht]; exact ⟨hP, hD⟩⟩, hS.F ht⟩) hS.2.2 hdg hlocks))
theorem gx_throw {V S : Type} {G : va_G} {w : S → va_W} {u : S} {f : Int32 × V × S} {k : Int32} {v0 : V} {Qc : Array Value → State → Outcome → State → Prop} (hf : f = (k, v0, u)) (hk0 : ¬ k = 0) {own cls text : String} {ik is ic : Nat} (hEx : exn k = cls) (hexec : p.tables.exec = Jvm.exec) (hb : c.code = cc) (hfl : l.stackTraces = false) (hown : s.vm.findClass own = some m.cls) (hcls : Bundle.fit cls = true)
    (hk : (Cond.classLink own ik cls).before args s = true) (hini : (Cond.initialized cls).before args s = true) (hstr : ∃ sa : Nat, vk_R own is text sa s) (hat : ∀ w ∈ vx_atS own ic cls ["java/lang/RuntimeException", "java/lang/Exception"], w.before args s = true)
    (hgood : ∀ w ∈ Cond.classLink own ik cls :: Cond.initialized cls :: vx_atS own ic cls ["java/lang/RuntimeException", "java/lang/Exception"], vx_ot w = true)
    (hU : vx_Zq Bundle.tN "UNASSIGNED_STACK" Bundle.steD A s s.heap) (hN : vx_Zq Bundle.tN "SUPPRESSED_SENTINEL" Bundle.listD A s s.heap) (hP : va_P G vwCl (w u) H) (hD : va_D A (w u)) (hS : va_S A s.heap H locs) (hsize : ls.size = c.maxLocals)
    (d0 : decode cc pc = .ok (.new ik, 3)) (d3 : decode cc (pc + 3) = .ok (.dup, 1)) (d4 : decode cc (pc + 4) = .ok (.ldc is, 2)) (d6 : decode cc (pc + 6) = .ok (.invokespecial ic, 3)) (d9 : decode cc (pc + 9) = .ok (.athrow, 1))
    (hout : ∀ x ∈ c.exceptionTable.toList, False) (hR1 : 5 < R.frames) (hR2 : 82 ≤ R.locals) (hR3 : 1 ≤ R.cells) (hR4 : 6 ≤ R.slots) (hlocks : meth.locks = false) :
    W p l e R s m args below meth c H locs 0 0 (vx_MQ below Qc (gxX w f G A) args s 1 6 A) (F0 m pc ls []) := by
  obtain ⟨sa, hstr⟩ := hstr
  refine vx_throwS hexec hb hfl hown hcls (by decide) hk hini hstr hat hgood hU hN hS hsize d0 d3 d4 d6 d9 (fun x hx => (hout x hx).elim) hR1 hR2 hR3 hR4 hlocks (fun t ha hz hq => ?_) hS.2.2 (Nat.le_refl _) (Nat.le_refl _)
  subst hf
  refine ⟨u, ⟨hk0, rfl⟩, ⟨hEx.symm, hP.kept (fun i q hi => hq _ (vx_lt hP hi)), hD⟩, Nat.le_trans hS.1 hz, fun q h1 h2 => ?_⟩
  rw [hq q (Nat.lt_of_lt_of_le h1 hS.1)]
  exact hS.2.1 q h1 h2
theorem gy_throw {V S : Type} {G : va_G} {w : S → va_W} {u : S} {f : Int32 × V × S} {k : Int32} {v0 : V} {Qc : Array Value → State → Outcome → State → Prop} (hf : f = (k, v0, u)) (hk0 : ¬ k = 0) {own text : String} {ik is ic : Nat} (hEx : exn k = vyX) (hexec : p.tables.exec = Jvm.exec) (hb : c.code = cc) (hfl : l.stackTraces = false) (hown : s.vm.findClass own = some m.cls) (hcls : Bundle.fit vyX = true)
    (hk : (Cond.classLink own ik vyX).before args s = true) (hini : (Cond.initialized vyX).before args s = true) (hstr : ∃ sa : Nat, vk_R own is text sa s) (hat : ∀ w ∈ vy_at own ic, w.before args s = true)
    (hgood : ∀ w ∈ Cond.classLink own ik vyX :: Cond.initialized vyX :: vy_at own ic, vx_ot w = true)
    (hU : vx_Zq Bundle.tN "UNASSIGNED_STACK" Bundle.steD A s s.heap) (hN : vx_Zq Bundle.tN "SUPPRESSED_SENTINEL" Bundle.listD A s s.heap) (hP : va_P G vwCl (w u) H) (hD : va_D A (w u)) (hS : va_S A s.heap H locs) (hsize : ls.size = c.maxLocals)
    (d0 : decode cc pc = .ok (.new ik, 3)) (d3 : decode cc (pc + 3) = .ok (.dup, 1)) (d4 : decode cc (pc + 4) = .ok (.ldc is, 2)) (d6 : decode cc (pc + 6) = .ok (.invokespecial ic, 3)) (d9 : decode cc (pc + 9) = .ok (.athrow, 1))
    (hout : ∀ x ∈ c.exceptionTable.toList, False) (hR1 : 5 < R.frames) (hR2 : 82 ≤ R.locals) (hR3 : 1 ≤ R.cells) (hR4 : 6 ≤ R.slots) (hlocks : meth.locks = false) :
    W p l e R s m args below meth c H locs 0 0 (vx_MQ below Qc (gxX w f G A) args s 1 6 A) (F0 m pc ls []) := by
  obtain ⟨sa, hstr⟩ := hstr
  refine vy_throwS hexec hb hfl hown hk hini hstr hat hgood hU hN hS hsize d0 d3 d4 d6 d9 (fun x hx => (hout x hx).elim) hR1 hR2 hR3 hR4 hlocks (fun t ha hz hq => ?_) hS.2.2 (Nat.le_refl _) (Nat.le_refl _)
  subst hf
  refine ⟨u, ⟨hk0, rfl⟩, ⟨hEx.symm, hP.kept (fun i q hi => hq _ (vx_lt hP hi)), hD⟩, Nat.le_trans hS.1 hz, fun q h1 h2 => ?_⟩
  rw [hq q (Nat.lt_of_lt_of_le h1 hS.1)]
  exact hS.2.1 q h1 h2
/-! switches -/
theorem sw_t (hexec : p.tables.exec = Jvm.exec) (hb : c.code = cc) {dflt lo hi : Int} {offs : Array Int} {len : Nat} {x : Int32} (n : Nat) {k : Int32} {off : Int} {tgt : Nat} (hdg : decode cc pc = .ok (.tableswitch dflt lo hi offs, len)) (hx : x = k) (hk : k.toInt = lo + n ∧ lo + n ≤ hi) (ho : offs[n]? = some off) (ht : (pc : Int) + off = (tgt : Int))
    (kk : W p l e R s m args below meth c H locs cells slots Q (F0 m tgt ls rest)) : W p l e R s m args below meth c H locs cells slots Q (F0 m pc ls (.int x :: rest)) := by
  subst hx
  obtain ⟨h1, h2⟩ := hk
  exact lv_tableIn hexec hb hdg (by omega) (by omega) (by rw [show (x.toInt - lo).toNat = n by omega]; exact ho) ht kk
/-- the default: x is none of keys, and every place of the table that is no key leads there too -/
theorem sw_td (hexec : p.tables.exec = Jvm.exec) (hb : c.code = cc) {dflt lo hi : Int} {offs : Array Int} {len : Nat} {x : Int32} (keys : List Int32) {tgt : Nat} (hdg : decode cc pc = .ok (.tableswitch dflt lo hi offs, len)) (hk : ∀ k ∈ keys, ¬ x = k) (ho : ((List.range offs.size).all fun n => decide (offs[n]? = some dflt) || keys.any fun k => decide (k.toInt = lo + n)) = true) (hs : (offs.size : Int) = hi - lo + 1) (ht : (pc : Int) + dflt = (tgt : Int))
    (kk : W p l e R s m args below meth c H locs cells slots Q (F0 m tgt ls rest)) : W p l e R s m args below meth c H locs cells slots Q (F0 m pc ls (.int x :: rest)) := by
  by_cases h1 : x.toInt < lo
  · exact lv_tableOut hexec hb hdg (Or.inl h1) ht kk
  · by_cases h2 : hi < x.toInt
    · exact lv_tableOut hexec hb hdg (Or.inr h2) ht kk
    · refine lv_tableIn hexec hb hdg h1 h2 (off := dflt) ?_ ht kk
      have hn : (x.toInt - lo).toNat < offs.size := by omega
      have := List.all_eq_true.mp ho _ (List.mem_range.mpr hn)
      rw [Bool.or_eq_true] at this
      rcases this with h | h
      · exact of_decide_eq_true h
      · obtain ⟨k, hk1, hk2⟩ := List.any_eq_true.mp h
        have h3 := of_decide_eq_true hk2
        refine absurd (Int32.toInt_inj.mp ?_) (hk k hk1)
        omega
theorem sw_l (hexec : p.tables.exec = Jvm.exec) (hb : c.code = cc) {dflt : Int} {ps : Array (Int × Int)} {len : Nat} {x k : Int32} {off : Int} {tgt : Nat} (hdg : decode cc pc = .ok (.lookupswitch dflt ps, len)) (hx : x = k) (hp : (ps.toList.zip (ps.toList.drop 1)).all (fun (a, next) => a.1 < next.1) = true) (ho : Op.lookupswitch.offset ps.toList dflt k.toInt = off) (ht : (pc : Int) + off = (tgt : Int))
    (kk : W p l e R s m args below meth c H locs cells slots Q (F0 m tgt ls rest)) : W p l e R s m args below meth c H locs cells slots Q (F0 m pc ls (.int x :: rest)) := by
  subst hx
  exact lv_lookup hexec hb hdg hp ho ht kk
theorem sw_off (dflt : Int) (x : Int32) : ∀ (ps : List (Int × Int)) (keys : List Int32), (∀ k ∈ keys, ¬ x = k) → (ps.map fun q => q.1) = (keys.map fun k => k.toInt) → Op.lookupswitch.offset ps dflt x.toInt = dflt
  | [], _, _, _ => rfl
  | (a, o) :: r, [], _, h => by simp at h
  | (a, o) :: r, k :: ks, hk, h => by
    simp only [List.map_cons, List.cons.injEq] at h
    rw [lv_osw (hk k List.mem_cons_self) h.1.symm]
    exact sw_off dflt x r ks (fun k h2 => hk k (List.mem_cons_of_mem _ h2)) h.2
theorem sw_ld (hexec : p.tables.exec = Jvm.exec) (hb : c.code = cc) {dflt : Int} {ps : Array (Int × Int)} {len : Nat} {x : Int32} (keys : List Int32) {tgt : Nat} (hdg : decode cc pc = .ok (.lookupswitch dflt ps, len)) (hk : ∀ k ∈ keys, ¬ x = k) (hm : (ps.toList.map fun q => q.1) = (keys.map fun k => k.toInt)) (hp : (ps.toList.zip (ps.toList.drop 1)).all (fun (a, next) => a.1 < next.1) = true) (ht : (pc : Int) + dflt = (tgt : Int))
    (kk : W p l e R s m args below meth c H locs cells slots Q (F0 m tgt ls rest)) : W p l e R s m args below meth c H locs cells slots Q (F0 m pc ls (.int x :: rest)) :=
  lv_lookup hexec hb hdg hp (sw_off dflt x _ keys hk hm) ht kk
end GCALL
theorem gx_ofW {S : Type} {l : Launch} {y : MethodName} {ws ws' : List Cond} {rm : Room} {E : (Nat → Prop) → State → Prop} {ty : List (ClassId × FieldType)} {w : S → va_W} {av : List Value} {u : S} {cc : ByteArray} {maxL : Nat} {ret : Option FieldType} {Qc : va_G → (Nat → Prop) → Array Value → State → Outcome → State → Prop} {XC : va_G → (Nat → Prop) → String → State → State → Prop} (hy : plainName y.cls = true) (hw : ws = Cond.code y cc maxL ret :: ws') (hn : (lg_sl av).length ≤ maxL)
    (body : ∀ (G : va_G) (A : Nat → Prop) (p : Program) (e : Env) (s : State) (m : MethodId) (args : Array Value) (below : List Frame) (meth : Method) (c : Code), p.tables.exec = Jvm.exec → c.code = cc → meth.sig.returnType = ret → c.maxLocals = maxL → (∀ x ∈ ws, x.before args s = true) → s.vm.findClass y.cls = some m.cls → meth.locks = false → (∀ x ∈ c.exceptionTable.toList, False) → va_K G vwCl ty s → E A s → (∀ q : Nat, s.heap.size ≤ q → A q) → ∀ (H : Heap) (locs : List Loc), va_P G vwCl (w u) H → va_D A (w u) → va_S A s.heap H locs → ∀ ls : Array Slot, lv_has ls maxL (lv_args 0 av) → W p l e rm s m args below meth c H locs 0 0 (vx_MQ below (Qc G A) (XC G A) args s 1 6 A) (F0 m 0 ls [])) :
    ∀ (G : va_G) (sz : Nat), vx_Met l y ws rm (va_Pc av (gSt G ty w sz u E)) (Qc G (va_A (w u) sz)) (XC G (va_A (w u) sz)) 1 6 (va_A (w u) sz) := by
  intro G sz
  refine vx_ofW (cc := cc) (maxL := maxL) (ret := ret) hy hw ?_
  intro p e s m args below meth c s₁ B hml hout hv
  obtain ⟨rfl, hsz, hP, hK, hD0, hE⟩ := hv
  subst hsz
  have hl := lv_entry av (n := maxL) hn
  rw [lg_entry_eq]
  exact body G (va_A (w u) s.heap.size) p e s m _ below meth c B.exec B.bytes B.returns hml (atoms_spec (ws := ws) B.pre) (findClass_of_methodNamed B.named) B.notSynchronized hout hK hE (fun q h => Or.inr h) _ _ hP (hD0.self (sz := s.heap.size)) va_S.rf _ hl

