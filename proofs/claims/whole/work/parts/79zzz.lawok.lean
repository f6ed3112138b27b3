/-! The law's code, checked. -/
def lw_ck (o : dm_Op) : Bool := match o.2.2.2 with
  | _ :: mi :: _ :: _ :: _ => if mi = 1000 then decide (o = (990, .invokestatic 119, 3, [1, 1000, 4, 0, 0, 4204])) else if mi = 1001 then decide (o = (1058, .invokestatic 128, 3, [1, 1001, 4, 0, 0, 5045])) else true
  | _ => true
set_option maxRecDepth 100000 in
theorem lw_ck_ok : qL_law.all lw_ck = true := by decide +kernel
set_option maxRecDepth 100000 in
theorem lw_okT : qL_law.all (dm_okT 7) = true := by decide +kernel
set_option maxRecDepth 100000 in
theorem lw_lin : dm_lin 0 qL_law = true := by decide +kernel
set_option maxRecDepth 100000 in
theorem lw_okI9 : dm_okI RL cL_law false (990, .invokestatic 119, 3, [1, 1000, 4, 0, 0, 4204]) = true := by decide +kernel
