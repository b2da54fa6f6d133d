theorem rI_floor {K : List jK} {h : jM} {Q : jPost} {a0 : Int32} {a1 : Int32} (H : T_X6_floor [.ref 0, .int a0, .int a1] K h (fun v K2 h2 => ∀ x : Int32, v = some (.int x) → Q (some (.int x)) K2 h2)) : T_X6_floor [.ref 0, .int a0, .int a1] K h Q := by
  simpa only [T_X6_floor, Option.some.injEq, Value.int.injEq, Value.long.injEq, forall_eq'] using H
theorem rI_type {K : List jK} {h : jM} {Q : jPost} {a0 : Int64} {a1 : Int32} (H : T_X6_type [.ref 0, .long a0, .int a1] K h (fun v K2 h2 => ∀ x : Int32, v = some (.int x) → Q (some (.int x)) K2 h2)) : T_X6_type [.ref 0, .long a0, .int a1] K h Q := by
  simpa only [T_X6_type, Option.some.injEq, Value.int.injEq, Value.long.injEq, forall_eq'] using H
theorem rI_rule {K : List jK} {h : jM} {Q : jPost} {a0 : Int32} (H : T_X6_rule [.ref 0, .int a0] K h (fun v K2 h2 => ∀ x : Int32, v = some (.int x) → Q (some (.int x)) K2 h2)) : T_X6_rule [.ref 0, .int a0] K h Q := by
  simpa only [T_X6_rule, Option.some.injEq, Value.int.injEq, Value.long.injEq, forall_eq'] using H
theorem rI_ant {K : List jK} {h : jM} {Q : jPost} {a0 : Int32} {a1 : Int32} {a2 : Int32} {a3 : Int32} (H : T_X6_ant [.ref 0, .int a0, .int a1, .int a2, .int a3] K h (fun v K2 h2 => ∀ x : Int32, v = some (.int x) → Q (some (.int x)) K2 h2)) : T_X6_ant [.ref 0, .int a0, .int a1, .int a2, .int a3] K h Q := by
  simpa only [T_X6_ant, Option.some.injEq, Value.int.injEq, Value.long.injEq, forall_eq'] using H
theorem rI_less {K : List jK} {h : jM} {Q : jPost}  (H : T_X6_less [.ref 0] K h (fun v K2 h2 => ∀ x : Int32, v = some (.int x) → Q (some (.int x)) K2 h2)) : T_X6_less [.ref 0] K h Q := by
  simpa only [T_X6_less, Option.some.injEq, Value.int.injEq, Value.long.injEq, forall_eq'] using H
theorem rI_paint {K : List jK} {h : jM} {Q : jPost} {a0 : Int32} {a1 : Int32} {a2 : Int32} (H : T_X6_paint [.ref 0, .int a0, .int a1, .int a2] K h (fun v K2 h2 => ∀ x : Int32, v = some (.int x) → Q (some (.int x)) K2 h2)) : T_X6_paint [.ref 0, .int a0, .int a1, .int a2] K h Q := by
  simpa only [T_X6_paint, Option.some.injEq, Value.int.injEq, Value.long.injEq, forall_eq'] using H
theorem rI_colour {K : List jK} {h : jM} {Q : jPost} {a0 : Int32} {a1 : Int32} (H : T_X6_colour [.ref 0, .int a0, .int a1] K h (fun v K2 h2 => ∀ x : Int32, v = some (.int x) → Q (some (.int x)) K2 h2)) : T_X6_colour [.ref 0, .int a0, .int a1] K h Q := by
  simpa only [T_X6_colour, Option.some.injEq, Value.int.injEq, Value.long.injEq, forall_eq'] using H
theorem rI_told {K : List jK} {h : jM} {Q : jPost} {a0 : Int32} {a1 : Int32} (H : T_X6_told [.ref 0, .int a0, .int a1] K h (fun v K2 h2 => ∀ x : Int32, v = some (.int x) → Q (some (.int x)) K2 h2)) : T_X6_told [.ref 0, .int a0, .int a1] K h Q := by
  simpa only [T_X6_told, Option.some.injEq, Value.int.injEq, Value.long.injEq, forall_eq'] using H
theorem rI_run {K : List jK} {h : jM} {Q : jPost} {a0 : Int32} (H : T_X6_run [.ref 0, .int a0] K h (fun v K2 h2 => ∀ x : Int32, v = some (.int x) → Q (some (.int x)) K2 h2)) : T_X6_run [.ref 0, .int a0] K h Q := by
  simpa only [T_X6_run, Option.some.injEq, Value.int.injEq, Value.long.injEq, forall_eq'] using H
theorem rI_time {K : List jK} {h : jM} {Q : jPost}  (H : T_X6_time [.ref 0] K h (fun v K2 h2 => ∀ x : Int32, v = some (.int x) → Q (some (.int x)) K2 h2)) : T_X6_time [.ref 0] K h Q := by
  simpa only [T_X6_time, Option.some.injEq, Value.int.injEq, Value.long.injEq, forall_eq'] using H
theorem rI_meeting {K : List jK} {h : jM} {Q : jPost} {a0 : Int32} {a1 : Int32} (H : T_X6_meeting [.ref 0, .int a0, .int a1] K h (fun v K2 h2 => ∀ x : Int32, v = some (.int x) → Q (some (.int x)) K2 h2)) : T_X6_meeting [.ref 0, .int a0, .int a1] K h Q := by
  simpa only [T_X6_meeting, Option.some.injEq, Value.int.injEq, Value.long.injEq, forall_eq'] using H
theorem rI_visits {K : List jK} {h : jM} {Q : jPost} {a0 : Int32} {a1 : Int32} (H : T_X6_visits [.ref 0, .int a0, .int a1] K h (fun v K2 h2 => ∀ x : Int32, v = some (.int x) → Q (some (.int x)) K2 h2)) : T_X6_visits [.ref 0, .int a0, .int a1] K h Q := by
  simpa only [T_X6_visits, Option.some.injEq, Value.int.injEq, Value.long.injEq, forall_eq'] using H
theorem rI_count {K : List jK} {h : jM} {Q : jPost} {a0 : Int32} (H : T_X6_count [.ref 0, .int a0] K h (fun v K2 h2 => ∀ x : Int32, v = some (.int x) → Q (some (.int x)) K2 h2)) : T_X6_count [.ref 0, .int a0] K h Q := by
  simpa only [T_X6_count, Option.some.injEq, Value.int.injEq, Value.long.injEq, forall_eq'] using H
theorem rI_bounds {K : List jK} {h : jM} {Q : jPost} {a0 : Int32} (H : T_X6_bounds [.ref 0, .int a0] K h (fun v K2 h2 => ∀ x : Int32, v = some (.int x) → Q (some (.int x)) K2 h2)) : T_X6_bounds [.ref 0, .int a0] K h Q := by
  simpa only [T_X6_bounds, Option.some.injEq, Value.int.injEq, Value.long.injEq, forall_eq'] using H
theorem rI_digest {K : List jK} {h : jM} {Q : jPost}  (H : T_X6_digest [.ref 0] K h (fun v K2 h2 => ∀ x : Int64, v = some (.long x) → Q (some (.long x)) K2 h2)) : T_X6_digest [.ref 0] K h Q := by
  simpa only [T_X6_digest, Option.some.injEq, Value.int.injEq, Value.long.injEq, forall_eq'] using H
theorem rI_mark {K : List jK} {h : jM} {Q : jPost}  (H : T_X6_mark [.ref 0] K h (fun v K2 h2 => ∀ x : Int32, v = some (.int x) → Q (some (.int x)) K2 h2)) : T_X6_mark [.ref 0] K h Q := by
  simpa only [T_X6_mark, Option.some.injEq, Value.int.injEq, Value.long.injEq, forall_eq'] using H
theorem rI_road {K : List jK} {h : jM} {Q : jPost} {a0 : Int32} (H : T_X6_road [.ref 0, .int a0] K h (fun v K2 h2 => ∀ x : Int32, v = some (.int x) → Q (some (.int x)) K2 h2)) : T_X6_road [.ref 0, .int a0] K h Q := by
  simpa only [T_X6_road, Option.some.injEq, Value.int.injEq, Value.long.injEq, forall_eq'] using H
theorem rI_differ {K : List jK} {h : jM} {Q : jPost}  (H : T_X6_differ [.ref 0] K h (fun v K2 h2 => ∀ x : Int32, v = some (.int x) → Q (some (.int x)) K2 h2)) : T_X6_differ [.ref 0] K h Q := by
  simpa only [T_X6_differ, Option.some.injEq, Value.int.injEq, Value.long.injEq, forall_eq'] using H
theorem rI_like {K : List jK} {h : jM} {Q : jPost} {a0 : Int32} {a1 : Int32} {a2 : Int32} (H : T_X6_like [.ref 0, .int a0, .int a1, .int a2] K h (fun v K2 h2 => ∀ x : Int32, v = some (.int x) → Q (some (.int x)) K2 h2)) : T_X6_like [.ref 0, .int a0, .int a1, .int a2] K h Q := by
  simpa only [T_X6_like, Option.some.injEq, Value.int.injEq, Value.long.injEq, forall_eq'] using H
theorem rI_sheet {K : List jK} {h : jM} {Q : jPost} {a0 : Int32} {a1 : Int32} {a2 : Int32} (H : T_X6_sheet [.ref 0, .int a0, .int a1, .int a2] K h (fun v K2 h2 => ∀ x : Int32, v = some (.int x) → Q (some (.int x)) K2 h2)) : T_X6_sheet [.ref 0, .int a0, .int a1, .int a2] K h Q := by
  simpa only [T_X6_sheet, Option.some.injEq, Value.int.injEq, Value.long.injEq, forall_eq'] using H
theorem rI_drop {K : List jK} {h : jM} {Q : jPost} {a0 : Int32} (H : T_X6_drop [.ref 0, .int a0] K h (fun v K2 h2 => ∀ x : Int32, v = some (.int x) → Q (some (.int x)) K2 h2)) : T_X6_drop [.ref 0, .int a0] K h Q := by
  simpa only [T_X6_drop, Option.some.injEq, Value.int.injEq, Value.long.injEq, forall_eq'] using H
theorem rI_item {K : List jK} {h : jM} {Q : jPost} {a0 : Int32} {a1 : Int32} {a2 : Int32} {a3 : Int32} (H : T_X6_item [.ref 0, .int a0, .int a1, .int a2, .int a3] K h (fun v K2 h2 => ∀ x : Int32, v = some (.int x) → Q (some (.int x)) K2 h2)) : T_X6_item [.ref 0, .int a0, .int a1, .int a2, .int a3] K h Q := by
  simpa only [T_X6_item, Option.some.injEq, Value.int.injEq, Value.long.injEq, forall_eq'] using H
theorem rI_lay {K : List jK} {h : jM} {Q : jPost} {a0 : Int32} {a1 : Int32} {a2 : Int32} {a3 : Int32} {a4 : Int32} {a5 : Int32} (H : T_X6_lay [.ref 0, .int a0, .int a1, .int a2, .int a3, .int a4, .int a5] K h (fun v K2 h2 => ∀ x : Int32, v = some (.int x) → Q (some (.int x)) K2 h2)) : T_X6_lay [.ref 0, .int a0, .int a1, .int a2, .int a3, .int a4, .int a5] K h Q := by
  simpa only [T_X6_lay, Option.some.injEq, Value.int.injEq, Value.long.injEq, forall_eq'] using H
theorem rI_copy {K : List jK} {h : jM} {Q : jPost} {a0 : Int32} {a1 : Int32} {a2 : Int32} {a3 : Int32} {a4 : Int32} (H : T_X6_copy [.ref 0, .int a0, .int a1, .int a2, .int a3, .int a4] K h (fun v K2 h2 => ∀ x : Int32, v = some (.int x) → Q (some (.int x)) K2 h2)) : T_X6_copy [.ref 0, .int a0, .int a1, .int a2, .int a3, .int a4] K h Q := by
  simpa only [T_X6_copy, Option.some.injEq, Value.int.injEq, Value.long.injEq, forall_eq'] using H
