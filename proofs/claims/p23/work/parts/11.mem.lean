theorem in_X0_init : ∀ w ∈ wsX00, w ∈ wsX0_init := fun _ h => List.mem_cons_of_mem _ (List.mem_append_right _ h)
theorem fl_X0_init_9 : Cond.fieldLink RX0 9 "LaneTrunks" "untaggedLane" "[I" ∈ wsX0_init := by decide +kernel
theorem fl_X0_init_13 : Cond.fieldLink RX0 13 "LaneTrunks" "taggedLanes" "[I" ∈ wsX0_init := by decide +kernel
theorem fl_X0_init_16 : Cond.fieldLink RX0 16 "LaneTrunks" "farSlot" "[I" ∈ wsX0_init := by decide +kernel
theorem fl_X0_init_19 : Cond.fieldLink RX0 19 "LaneTrunks" "cableCost" "[I" ∈ wsX0_init := by decide +kernel
theorem fl_X0_init_22 : Cond.fieldLink RX0 22 "LaneTrunks" "book" "[I" ∈ wsX0_init := by decide +kernel
theorem fl_X0_init_25 : Cond.fieldLink RX0 25 "LaneTrunks" "rootUnit" "[I" ∈ wsX0_init := by decide +kernel
theorem fl_X0_init_28 : Cond.fieldLink RX0 28 "LaneTrunks" "rootCost" "[I" ∈ wsX0_init := by decide +kernel
theorem fl_X0_init_31 : Cond.fieldLink RX0 31 "LaneTrunks" "wayUpSlot" "[I" ∈ wsX0_init := by decide +kernel
theorem fl_X0_init_34 : Cond.fieldLink RX0 34 "LaneTrunks" "steps" "[I" ∈ wsX0_init := by decide +kernel
theorem fl_X0_init_37 : Cond.fieldLink RX0 37 "LaneTrunks" "reachedPlaces" "[I" ∈ wsX0_init := by decide +kernel
theorem fl_X0_init_40 : Cond.fieldLink RX0 40 "LaneTrunks" "weights" "[I" ∈ wsX0_init := by decide +kernel
theorem fl_X0_init_43 : Cond.fieldLink RX0 43 "LaneTrunks" "sums" "[I" ∈ wsX0_init := by decide +kernel
theorem in_X0_untag : ∀ w ∈ wsX00, w ∈ wsX0_untag := fun _ h => List.mem_cons_of_mem _ (List.mem_append_left _ (List.mem_append_left _ (List.mem_append_right _ h)))
theorem fl_X0_untag_9 : Cond.fieldLink RX0 9 "LaneTrunks" "untaggedLane" "[I" ∈ wsX0_untag := by decide +kernel
theorem in_X0_tag : ∀ w ∈ wsX00, w ∈ wsX0_tag := fun _ h => List.mem_cons_of_mem _ (List.mem_append_left _ (List.mem_append_left _ (List.mem_append_right _ h)))
theorem fl_X0_tag_9 : Cond.fieldLink RX0 9 "LaneTrunks" "untaggedLane" "[I" ∈ wsX0_tag := by decide +kernel
theorem fl_X0_tag_13 : Cond.fieldLink RX0 13 "LaneTrunks" "taggedLanes" "[I" ∈ wsX0_tag := by decide +kernel
theorem in_X0_cable : ∀ w ∈ wsX00, w ∈ wsX0_cable := fun _ h => List.mem_cons_of_mem _ (List.mem_append_left _ (List.mem_append_left _ (List.mem_append_right _ h)))
theorem fl_X0_cable_101 : Cond.fieldLink RX0 101 "LaneTrunks" "cableCount" "I" ∈ wsX0_cable := by decide +kernel
theorem in_X0_pull : ∀ w ∈ wsX00, w ∈ wsX0_pull := fun _ h => List.mem_cons_of_mem _ (List.mem_append_left _ (List.mem_append_left _ (List.mem_append_right _ h)))
theorem fl_X0_pull_16 : Cond.fieldLink RX0 16 "LaneTrunks" "farSlot" "[I" ∈ wsX0_pull := by decide +kernel
theorem fl_X0_pull_19 : Cond.fieldLink RX0 19 "LaneTrunks" "cableCost" "[I" ∈ wsX0_pull := by decide +kernel
theorem fl_X0_pull_101 : Cond.fieldLink RX0 101 "LaneTrunks" "cableCount" "I" ∈ wsX0_pull := by decide +kernel
theorem in_X0_tree : ∀ w ∈ wsX00, w ∈ wsX0_tree := fun _ h => List.mem_cons_of_mem _ (List.mem_append_right _ h)
theorem fl_X0_tree_108 : Cond.fieldLink RX0 108 "LaneTrunks" "isTreeOn" "Z" ∈ wsX0_tree := by decide +kernel
theorem in_X0_note : ∀ w ∈ wsX00, w ∈ wsX0_note := fun _ h => List.mem_cons_of_mem _ (List.mem_append_left _ (List.mem_append_right _ h))
theorem fl_X0_note_22 : Cond.fieldLink RX0 22 "LaneTrunks" "book" "[I" ∈ wsX0_note := by decide +kernel
theorem in_X0_far : ∀ w ∈ wsX00, w ∈ wsX0_far := fun _ h => List.mem_cons_of_mem _ (List.mem_append_left _ (List.mem_append_right _ h))
theorem fl_X0_far_16 : Cond.fieldLink RX0 16 "LaneTrunks" "farSlot" "[I" ∈ wsX0_far := by decide +kernel
theorem in_X0_oneSided : ∀ w ∈ wsX00, w ∈ wsX0_oneSided := fun _ h => List.mem_cons_of_mem _ (List.mem_append_left _ (List.mem_append_left _ (List.mem_append_right _ h)))
theorem fl_X0_oneSided_13 : Cond.fieldLink RX0 13 "LaneTrunks" "taggedLanes" "[I" ∈ wsX0_oneSided := by decide +kernel
theorem fl_X0_oneSided_16 : Cond.fieldLink RX0 16 "LaneTrunks" "farSlot" "[I" ∈ wsX0_oneSided := by decide +kernel
theorem in_X0_wrong : ∀ w ∈ wsX00, w ∈ wsX0_wrong := fun _ h => List.mem_cons_of_mem _ (List.mem_append_right _ h)
theorem fl_X0_wrong_16 : Cond.fieldLink RX0 16 "LaneTrunks" "farSlot" "[I" ∈ wsX0_wrong := by decide +kernel
theorem fl_X0_wrong_22 : Cond.fieldLink RX0 22 "LaneTrunks" "book" "[I" ∈ wsX0_wrong := by decide +kernel
theorem in_X0_root : ∀ w ∈ wsX00, w ∈ wsX0_root := fun _ h => List.mem_cons_of_mem _ (List.mem_append_left _ (List.mem_append_right _ h))
theorem fl_X0_root_25 : Cond.fieldLink RX0 25 "LaneTrunks" "rootUnit" "[I" ∈ wsX0_root := by decide +kernel
theorem in_X0_costOf : ∀ w ∈ wsX00, w ∈ wsX0_costOf := fun _ h => List.mem_cons_of_mem _ (List.mem_append_left _ (List.mem_append_right _ h))
theorem fl_X0_costOf_28 : Cond.fieldLink RX0 28 "LaneTrunks" "rootCost" "[I" ∈ wsX0_costOf := by decide +kernel
theorem in_X0_wayUp : ∀ w ∈ wsX00, w ∈ wsX0_wayUp := fun _ h => List.mem_cons_of_mem _ (List.mem_append_left _ (List.mem_append_right _ h))
theorem fl_X0_wayUp_31 : Cond.fieldLink RX0 31 "LaneTrunks" "wayUpSlot" "[I" ∈ wsX0_wayUp := by decide +kernel
theorem in_X0_hops : ∀ w ∈ wsX00, w ∈ wsX0_hops := fun _ h => List.mem_cons_of_mem _ (List.mem_append_left _ (List.mem_append_right _ h))
theorem fl_X0_hops_34 : Cond.fieldLink RX0 34 "LaneTrunks" "steps" "[I" ∈ wsX0_hops := by decide +kernel
theorem in_X0_meet : ∀ w ∈ wsX00, w ∈ wsX0_meet := fun _ h => List.mem_cons_of_mem _ (List.mem_append_left _ (List.mem_append_right _ h))
theorem fl_X0_meet_9 : Cond.fieldLink RX0 9 "LaneTrunks" "untaggedLane" "[I" ∈ wsX0_meet := by decide +kernel
theorem in_X0_joined : ∀ w ∈ wsX00, w ∈ wsX0_joined := fun _ h => List.mem_cons_of_mem _ (List.mem_append_left _ (List.mem_append_right _ h))
theorem fl_X0_joined_143 : Cond.fieldLink RX0 143 "LaneTrunks" "reachedCount" "I" ∈ wsX0_joined := by decide +kernel
theorem in_X0_islands : ∀ w ∈ wsX00, w ∈ wsX0_islands := fun _ h => List.mem_cons_of_mem _ (List.mem_append_right _ h)
theorem fl_X0_islands_34 : Cond.fieldLink RX0 34 "LaneTrunks" "steps" "[I" ∈ wsX0_islands := by decide +kernel
theorem in_X0_changes : ∀ w ∈ wsX00, w ∈ wsX0_changes := fun _ h => List.mem_cons_of_mem _ (List.mem_append_left _ (List.mem_append_right _ h))
theorem fl_X0_changes_9 : Cond.fieldLink RX0 9 "LaneTrunks" "untaggedLane" "[I" ∈ wsX0_changes := by decide +kernel
theorem fl_X0_changes_40 : Cond.fieldLink RX0 40 "LaneTrunks" "weights" "[I" ∈ wsX0_changes := by decide +kernel
theorem fl_X0_changes_43 : Cond.fieldLink RX0 43 "LaneTrunks" "sums" "[I" ∈ wsX0_changes := by decide +kernel
theorem in_X0_isTagged : ∀ w ∈ wsX00, w ∈ wsX0_isTagged := fun _ h => List.mem_cons_of_mem _ (List.mem_append_right _ h)
theorem fl_X0_isTagged_13 : Cond.fieldLink RX0 13 "LaneTrunks" "taggedLanes" "[I" ∈ wsX0_isTagged := by decide +kernel
theorem in_X0_hasCable : ∀ w ∈ wsX00, w ∈ wsX0_hasCable := fun _ h => List.mem_cons_of_mem _ (List.mem_append_right _ h)
theorem fl_X0_hasCable_16 : Cond.fieldLink RX0 16 "LaneTrunks" "farSlot" "[I" ∈ wsX0_hasCable := by decide +kernel
theorem in_X0_setCable : ∀ w ∈ wsX00, w ∈ wsX0_setCable := fun _ h => List.mem_cons_of_mem _ (List.mem_append_right _ h)
theorem fl_X0_setCable_16 : Cond.fieldLink RX0 16 "LaneTrunks" "farSlot" "[I" ∈ wsX0_setCable := by decide +kernel
theorem fl_X0_setCable_19 : Cond.fieldLink RX0 19 "LaneTrunks" "cableCost" "[I" ∈ wsX0_setCable := by decide +kernel
theorem in_X0_hasLiveCable : ∀ w ∈ wsX00, w ∈ wsX0_hasLiveCable := fun _ h => List.mem_cons_of_mem _ (List.mem_append_right _ h)
theorem fl_X0_hasLiveCable_16 : Cond.fieldLink RX0 16 "LaneTrunks" "farSlot" "[I" ∈ wsX0_hasLiveCable := by decide +kernel
theorem fl_X0_hasLiveCable_31 : Cond.fieldLink RX0 31 "LaneTrunks" "wayUpSlot" "[I" ∈ wsX0_hasLiveCable := by decide +kernel
theorem fl_X0_hasLiveCable_108 : Cond.fieldLink RX0 108 "LaneTrunks" "isTreeOn" "Z" ∈ wsX0_hasLiveCable := by decide +kernel
theorem in_X0_laneBeyond : ∀ w ∈ wsX00, w ∈ wsX0_laneBeyond := fun _ h => List.mem_cons_of_mem _ (List.mem_append_right _ h)
theorem fl_X0_laneBeyond_9 : Cond.fieldLink RX0 9 "LaneTrunks" "untaggedLane" "[I" ∈ wsX0_laneBeyond := by decide +kernel
theorem fl_X0_laneBeyond_16 : Cond.fieldLink RX0 16 "LaneTrunks" "farSlot" "[I" ∈ wsX0_laneBeyond := by decide +kernel
theorem in_X0_growTree : ∀ w ∈ wsX00, w ∈ wsX0_growTree := fun _ h => List.mem_cons_of_mem _ (List.mem_append_right _ h)
theorem fl_X0_growTree_31 : Cond.fieldLink RX0 31 "LaneTrunks" "wayUpSlot" "[I" ∈ wsX0_growTree := by decide +kernel
theorem in_X0_findRoots : ∀ w ∈ wsX00, w ∈ wsX0_findRoots := fun _ h => List.mem_cons_of_mem _ (List.mem_append_right _ h)
theorem fl_X0_findRoots_25 : Cond.fieldLink RX0 25 "LaneTrunks" "rootUnit" "[I" ∈ wsX0_findRoots := by decide +kernel
theorem fl_X0_findRoots_40 : Cond.fieldLink RX0 40 "LaneTrunks" "weights" "[I" ∈ wsX0_findRoots := by decide +kernel
theorem in_X0_findCosts : ∀ w ∈ wsX00, w ∈ wsX0_findCosts := fun _ h => List.mem_cons_of_mem _ (List.mem_append_right _ h)
theorem fl_X0_findCosts_19 : Cond.fieldLink RX0 19 "LaneTrunks" "cableCost" "[I" ∈ wsX0_findCosts := by decide +kernel
theorem fl_X0_findCosts_25 : Cond.fieldLink RX0 25 "LaneTrunks" "rootUnit" "[I" ∈ wsX0_findCosts := by decide +kernel
theorem fl_X0_findCosts_28 : Cond.fieldLink RX0 28 "LaneTrunks" "rootCost" "[I" ∈ wsX0_findCosts := by decide +kernel
theorem in_X0_bestWayUp : ∀ w ∈ wsX00, w ∈ wsX0_bestWayUp := fun _ h => List.mem_cons_of_mem _ (List.mem_append_right _ h)
theorem fl_X0_bestWayUp_16 : Cond.fieldLink RX0 16 "LaneTrunks" "farSlot" "[I" ∈ wsX0_bestWayUp := by decide +kernel
theorem fl_X0_bestWayUp_19 : Cond.fieldLink RX0 19 "LaneTrunks" "cableCost" "[I" ∈ wsX0_bestWayUp := by decide +kernel
theorem fl_X0_bestWayUp_28 : Cond.fieldLink RX0 28 "LaneTrunks" "rootCost" "[I" ∈ wsX0_bestWayUp := by decide +kernel
theorem in_X0_lowerSum : ∀ w ∈ wsX00, w ∈ wsX0_lowerSum := fun _ h => List.mem_cons_of_mem _ (List.mem_append_right _ h)
theorem fl_X0_lowerSum_16 : Cond.fieldLink RX0 16 "LaneTrunks" "farSlot" "[I" ∈ wsX0_lowerSum := by decide +kernel
theorem in_X0_forgetWalks : ∀ w ∈ wsX00, w ∈ wsX0_forgetWalks := fun _ h => List.mem_cons_of_mem _ (List.mem_append_right _ h)
theorem fl_X0_forgetWalks_34 : Cond.fieldLink RX0 34 "LaneTrunks" "steps" "[I" ∈ wsX0_forgetWalks := by decide +kernel
theorem fl_X0_forgetWalks_143 : Cond.fieldLink RX0 143 "LaneTrunks" "reachedCount" "I" ∈ wsX0_forgetWalks := by decide +kernel
theorem in_X0_walkFrom : ∀ w ∈ wsX00, w ∈ wsX0_walkFrom := fun _ h => List.mem_cons_of_mem _ (List.mem_append_right _ h)
theorem fl_X0_walkFrom_37 : Cond.fieldLink RX0 37 "LaneTrunks" "reachedPlaces" "[I" ∈ wsX0_walkFrom := by decide +kernel
theorem fl_X0_walkFrom_143 : Cond.fieldLink RX0 143 "LaneTrunks" "reachedCount" "I" ∈ wsX0_walkFrom := by decide +kernel
theorem in_X0_reach : ∀ w ∈ wsX00, w ∈ wsX0_reach := fun _ h => List.mem_cons_of_mem _ (List.mem_append_right _ h)
theorem fl_X0_reach_34 : Cond.fieldLink RX0 34 "LaneTrunks" "steps" "[I" ∈ wsX0_reach := by decide +kernel
theorem fl_X0_reach_37 : Cond.fieldLink RX0 37 "LaneTrunks" "reachedPlaces" "[I" ∈ wsX0_reach := by decide +kernel
theorem fl_X0_reach_143 : Cond.fieldLink RX0 143 "LaneTrunks" "reachedCount" "I" ∈ wsX0_reach := by decide +kernel
theorem in_X0_reachNeighbours : ∀ w ∈ wsX00, w ∈ wsX0_reachNeighbours := fun _ h => List.mem_cons_of_mem _ (List.mem_append_right _ h)
theorem fl_X0_reachNeighbours_34 : Cond.fieldLink RX0 34 "LaneTrunks" "steps" "[I" ∈ wsX0_reachNeighbours := by decide +kernel
theorem in_X0_placeBeyond : ∀ w ∈ wsX00, w ∈ wsX0_placeBeyond := fun _ h => List.mem_cons_of_mem _ (List.mem_append_right _ h)
theorem fl_X0_placeBeyond_16 : Cond.fieldLink RX0 16 "LaneTrunks" "farSlot" "[I" ∈ wsX0_placeBeyond := by decide +kernel
theorem in_X0_isUsed : ∀ w ∈ wsX00, w ∈ wsX0_isUsed := fun _ h => List.mem_cons_of_mem _ (List.mem_append_right _ h)
theorem fl_X0_isUsed_9 : Cond.fieldLink RX0 9 "LaneTrunks" "untaggedLane" "[I" ∈ wsX0_isUsed := by decide +kernel
theorem in_X0_countWays : ∀ w ∈ wsX00, w ∈ wsX0_countWays := fun _ h => List.mem_cons_of_mem _ (List.mem_append_right _ h)
theorem fl_X0_countWays_16 : Cond.fieldLink RX0 16 "LaneTrunks" "farSlot" "[I" ∈ wsX0_countWays := by decide +kernel
theorem in_X0_waysOver : ∀ w ∈ wsX00, w ∈ wsX0_waysOver := fun _ h => List.mem_cons_of_mem _ (List.mem_append_right _ h)
theorem fl_X0_waysOver_9 : Cond.fieldLink RX0 9 "LaneTrunks" "untaggedLane" "[I" ∈ wsX0_waysOver := by decide +kernel
theorem fl_X0_waysOver_13 : Cond.fieldLink RX0 13 "LaneTrunks" "taggedLanes" "[I" ∈ wsX0_waysOver := by decide +kernel
theorem in_X0_changesOver : ∀ w ∈ wsX00, w ∈ wsX0_changesOver := fun _ h => List.mem_cons_of_mem _ (List.mem_append_right _ h)
theorem fl_X0_changesOver_9 : Cond.fieldLink RX0 9 "LaneTrunks" "untaggedLane" "[I" ∈ wsX0_changesOver := by decide +kernel
theorem fl_X0_changesOver_16 : Cond.fieldLink RX0 16 "LaneTrunks" "farSlot" "[I" ∈ wsX0_changesOver := by decide +kernel
