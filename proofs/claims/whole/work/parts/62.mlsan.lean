theorem MLs_ac {m1 m : zmem} {c i : Int} : zac (MLs m1 m c i) m1 := by
  unfold MLs MPt
  repeat (first | exact zac_rf _ | refine zac_u ?_ (by omega))
theorem MLs_an {m1 m : zmem} (ha : zan m1 m) {c i : Int} : zan (MLs m1 m c i) (ML1 m c i) := by
  unfold MLs MPt ML1 MYa
  refine zan_w (zan_w (zan_w (zan_w ?_)))
  exact zan_u (zan_u (zan_u ha (by omega)) (by omega)) (by omega)
