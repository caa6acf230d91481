theorem in_X0_init : ∀ w ∈ wsX00, w ∈ wsX0_init := fun _ h => List.mem_cons_of_mem _ (List.mem_append_right _ h)
theorem fl_X0_init_9 : Cond.fieldLink RX0 9 "LaneTrunks" "untaggedLane" "[I" ∈ wsX0_init := by decide +kernel
theorem fl_X0_init_13 : Cond.fieldLink RX0 13 "LaneTrunks" "taggedLanes" "[I" ∈ wsX0_init := by decide +kernel
theorem fl_X0_init_16 : Cond.fieldLink RX0 16 "LaneTrunks" "farSlot" "[I" ∈ wsX0_init := by decide +kernel
theorem fl_X0_init_19 : Cond.fieldLink RX0 19 "LaneTrunks" "cableCost" "[I" ∈ wsX0_init := by decide +kernel
theorem fl_X0_init_22 : Cond.fieldLink RX0 22 "LaneTrunks" "book" "[I" ∈ wsX0_init := by decide +kernel
theorem fl_X0_init_25 : Cond.fieldLink RX0 25 "LaneTrunks" "rootUnit" "[I" ∈ wsX0_init := by decide +kernel
theorem fl_X0_init_28 : Cond.fieldLink RX0 28 "LaneTrunks" "rootCost" "[I" ∈ wsX0_init := by decide +kernel
theorem fl_X0_init_31 : Cond.fieldLink RX0 31 "LaneTrunks" "wayUpSlot" "[I" ∈ wsX0_init := by decide +kernel
theorem fl_X0_init_34 : Cond.fieldLink RX0 34 "LaneTrunks" "steps" "[I" ∈ wsX0_init := by decide +kernel
theorem fl_X0_init_37 : Cond.fieldLink RX0 37 "LaneTrunks" "reachedPlaces" "[I" ∈ wsX0_init := by decide +kernel
theorem fl_X0_init_40 : Cond.fieldLink RX0 40 "LaneTrunks" "weights" "[I" ∈ wsX0_init := by decide +kernel
theorem fl_X0_init_43 : Cond.fieldLink RX0 43 "LaneTrunks" "sums" "[I" ∈ wsX0_init := by decide +kernel
theorem in_X0_untag : ∀ w ∈ wsX00, w ∈ wsX0_untag := fun _ h => List.mem_cons_of_mem _ (List.mem_append_left _ (List.mem_append_left _ (List.mem_append_right _ h)))
theorem fl_X0_untag_9 : Cond.fieldLink RX0 9 "LaneTrunks" "untaggedLane" "[I" ∈ wsX0_untag := by decide +kernel
theorem in_X0_tag : ∀ w ∈ wsX00, w ∈ wsX0_tag := fun _ h => List.mem_cons_of_mem _ (List.mem_append_left _ (List.mem_append_left _ (List.mem_append_right _ h)))
theorem fl_X0_tag_9 : Cond.fieldLink RX0 9 "LaneTrunks" "untaggedLane" "[I" ∈ wsX0_tag := by decide +kernel
theorem fl_X0_tag_13 : Cond.fieldLink RX0 13 "LaneTrunks" "taggedLanes" "[I" ∈ wsX0_tag := by decide +kernel
theorem in_X0_cable : ∀ w ∈ wsX00, w ∈ wsX0_cable := fun _ h => List.mem_cons_of_mem _ (List.mem_append_left _ (List.mem_append_left _ (List.mem_append_right _ h)))
theorem fl_X0_cable_101 : Cond.fieldLink RX0 101 "LaneTrunks" "cableCount" "I" ∈ wsX0_cable := by decide +kernel
theorem in_X0_pull : ∀ w ∈ wsX00, w ∈ wsX0_pull := fun _ h => List.mem_cons_of_mem _ (List.mem_append_left _ (List.mem_append_left _ (List.mem_append_right _ h)))
theorem fl_X0_pull_16 : Cond.fieldLink RX0 16 "LaneTrunks" "farSlot" "[I" ∈ wsX0_pull := by decide +kernel
theorem fl_X0_pull_19 : Cond.fieldLink RX0 19 "LaneTrunks" "cableCost" "[I" ∈ wsX0_pull := by decide +kernel
theorem fl_X0_pull_101 : Cond.fieldLink RX0 101 "LaneTrunks" "cableCount" "I" ∈ wsX0_pull := by decide +kernel
theorem in_X0_tree : ∀ w ∈ wsX00, w ∈ wsX0_tree := fun _ h => List.mem_cons_of_mem _ (List.mem_append_right _ h)
theorem fl_X0_tree_108 : Cond.fieldLink RX0 108 "LaneTrunks" "isTreeOn" "Z" ∈ wsX0_tree := by decide +kernel
theorem in_X0_note : ∀ w ∈ wsX00, w ∈ wsX0_note := fun _ h => List.mem_cons_of_mem _ (List.mem_append_left _ (List.mem_append_right _ h))
theorem fl_X0_note_22 : Cond.fieldLink RX0 22 "LaneTrunks" "book" "[I" ∈ wsX0_note := by decide +kernel
theorem in_X0_far : ∀ w ∈ wsX00, w ∈ wsX0_far := fun _ h => List.mem_cons_of_mem _ (List.mem_append_left _ (List.mem_append_right _ h))
theorem fl_X0_far_16 : Cond.fieldLink RX0 16 "LaneTrunks" "farSlot" "[I" ∈ wsX0_far := by decide +kernel
theorem in_X0_oneSided : ∀ w ∈ wsX00, w ∈ wsX0_oneSided := fun _ h => List.mem_cons_of_mem _ (List.mem_append_left _ (List.mem_append_left _ (List.mem_append_right _ h)))
theorem fl_X0_oneSided_13 : Cond.fieldLink RX0 13 "LaneTrunks" "taggedLanes" "[I" ∈ wsX0_oneSided := by decide +kernel
theorem fl_X0_oneSided_16 : Cond.fieldLink RX0 16 "LaneTrunks" "farSlot" "[I" ∈ wsX0_oneSided := by decide +kernel
theorem in_X0_wrong : ∀ w ∈ wsX00, w ∈ wsX0_wrong := fun _ h => List.mem_cons_of_mem _ (List.mem_append_right _ h)
theorem fl_X0_wrong_16 : Cond.fieldLink RX0 16 "LaneTrunks" "farSlot" "[I" ∈ wsX0_wrong := by decide +kernel
theorem fl_X0_wrong_22 : Cond.fieldLink RX0 22 "LaneTrunks" "book" "[I" ∈ wsX0_wrong := by decide +kernel
theorem in_X0_root : ∀ w ∈ wsX00, w ∈ wsX0_root := fun _ h => List.mem_cons_of_mem _ (List.mem_append_left _ (List.mem_append_right _ h))
theorem fl_X0_root_25 : Cond.fieldLink RX0 25 "LaneTrunks" "rootUnit" "[I" ∈ wsX0_root := by decide +kernel
theorem in_X0_costOf : ∀ w ∈ wsX00, w ∈ wsX0_costOf := fun _ h => List.mem_cons_of_mem _ (List.mem_append_left _ (List.mem_append_right _ h))
theorem fl_X0_costOf_28 : Cond.fieldLink RX0 28 "LaneTrunks" "rootCost" "[I" ∈ wsX0_costOf := by decide +kernel
theorem in_X0_wayUp : ∀ w ∈ wsX00, w ∈ wsX0_wayUp := fun _ h => List.mem_cons_of_mem _ (List.mem_append_left _ (List.mem_append_right _ h))
theorem fl_X0_wayUp_31 : Cond.fieldLink RX0 31 "LaneTrunks" "wayUpSlot" "[I" ∈ wsX0_wayUp := by decide +kernel
theorem in_X0_hops : ∀ w ∈ wsX00, w ∈ wsX0_hops := fun _ h => List.mem_cons_of_mem _ (List.mem_append_left _ (List.mem_append_right _ h))
theorem fl_X0_hops_34 : Cond.fieldLink RX0 34 "LaneTrunks" "steps" "[I" ∈ wsX0_hops := by decide +kernel
theorem in_X0_meet : ∀ w ∈ wsX00, w ∈ wsX0_meet := fun _ h => List.mem_cons_of_mem _ (List.mem_append_left _ (List.mem_append_right _ h))
theorem fl_X0_meet_9 : Cond.fieldLink RX0 9 "LaneTrunks" "untaggedLane" "[I" ∈ wsX0_meet := by decide +kernel
theorem in_X0_joined : ∀ w ∈ wsX00, w ∈ wsX0_joined := fun _ h => List.mem_cons_of_mem _ (List.mem_append_left _ (List.mem_append_right _ h))
theorem fl_X0_joined_143 : Cond.fieldLink RX0 143 "LaneTrunks" "reachedCount" "I" ∈ wsX0_joined := by decide +kernel
theorem in_X0_islands : ∀ w ∈ wsX00, w ∈ wsX0_islands := fun _ h => List.mem_cons_of_mem _ (List.mem_append_right _ h)
theorem fl_X0_islands_34 : Cond.fieldLink RX0 34 "LaneTrunks" "steps" "[I" ∈ wsX0_islands := by decide +kernel
theorem in_X0_changes : ∀ w ∈ wsX00, w ∈ wsX0_changes := fun _ h => List.mem_cons_of_mem _ (List.mem_append_left _ (List.mem_append_right _ h))
theorem fl_X0_changes_9 : Cond.fieldLink RX0 9 "LaneTrunks" "untaggedLane" "[I" ∈ wsX0_changes := by decide +kernel
theorem fl_X0_changes_40 : Cond.fieldLink RX0 40 "LaneTrunks" "weights" "[I" ∈ wsX0_changes := by decide +kernel
theorem fl_X0_changes_43 : Cond.fieldLink RX0 43 "LaneTrunks" "sums" "[I" ∈ wsX0_changes := by decide +kernel
theorem in_X0_isTagged : ∀ w ∈ wsX00, w ∈ wsX0_isTagged := fun _ h => List.mem_cons_of_mem _ (List.mem_append_right _ h)
theorem fl_X0_isTagged_13 : Cond.fieldLink RX0 13 "LaneTrunks" "taggedLanes" "[I" ∈ wsX0_isTagged := by decide +kernel
theorem in_X0_hasCable : ∀ w ∈ wsX00, w ∈ wsX0_hasCable := fun _ h => List.mem_cons_of_mem _ (List.mem_append_right _ h)
theorem fl_X0_hasCable_16 : Cond.fieldLink RX0 16 "LaneTrunks" "farSlot" "[I" ∈ wsX0_hasCable := by decide +kernel
theorem in_X0_setCable : ∀ w ∈ wsX00, w ∈ wsX0_setCable := fun _ h => List.mem_cons_of_mem _ (List.mem_append_right _ h)
theorem fl_X0_setCable_16 : Cond.fieldLink RX0 16 "LaneTrunks" "farSlot" "[I" ∈ wsX0_setCable := by decide +kernel
theorem fl_X0_setCable_19 : Cond.fieldLink RX0 19 "LaneTrunks" "cableCost" "[I" ∈ wsX0_setCable := by decide +kernel
theorem in_X0_hasLiveCable : ∀ w ∈ wsX00, w ∈ wsX0_hasLiveCable := fun _ h => List.mem_cons_of_mem _ (List.mem_append_right _ h)
theorem fl_X0_hasLiveCable_16 : Cond.fieldLink RX0 16 "LaneTrunks" "farSlot" "[I" ∈ wsX0_hasLiveCable := by decide +kernel
theorem fl_X0_hasLiveCable_31 : Cond.fieldLink RX0 31 "LaneTrunks" "wayUpSlot" "[I" ∈ wsX0_hasLiveCable := by decide +kernel
theorem fl_X0_hasLiveCable_108 : Cond.fieldLink RX0 108 "LaneTrunks" "isTreeOn" "Z" ∈ wsX0_hasLiveCable := by decide +kernel
theorem in_X0_laneBeyond : ∀ w ∈ wsX00, w ∈ wsX0_laneBeyond := fun _ h => List.mem_cons_of_mem _ (List.mem_append_right _ h)
theorem fl_X0_laneBeyond_9 : Cond.fieldLink RX0 9 "LaneTrunks" "untaggedLane" "[I" ∈ wsX0_laneBeyond := by decide +kernel
theorem fl_X0_laneBeyond_16 : Cond.fieldLink RX0 16 "LaneTrunks" "farSlot" "[I" ∈ wsX0_laneBeyond := by decide +kernel
theorem in_X0_growTree : ∀ w ∈ wsX00, w ∈ wsX0_growTree := fun _ h => List.mem_cons_of_mem _ (List.mem_append_right _ h)
theorem fl_X0_growTree_31 : Cond.fieldLink RX0 31 "LaneTrunks" "wayUpSlot" "[I" ∈ wsX0_growTree := by decide +kernel
theorem in_X0_findRoots : ∀ w ∈ wsX00, w ∈ wsX0_findRoots := fun _ h => List.mem_cons_of_mem _ (List.mem_append_right _ h)
theorem fl_X0_findRoots_25 : Cond.fieldLink RX0 25 "LaneTrunks" "rootUnit" "[I" ∈ wsX0_findRoots := by decide +kernel
theorem fl_X0_findRoots_40 : Cond.fieldLink RX0 40 "LaneTrunks" "weights" "[I" ∈ wsX0_findRoots := by decide +kernel
theorem in_X0_findCosts : ∀ w ∈ wsX00, w ∈ wsX0_findCosts := fun _ h => List.mem_cons_of_mem _ (List.mem_append_right _ h)
theorem fl_X0_findCosts_19 : Cond.fieldLink RX0 19 "LaneTrunks" "cableCost" "[I" ∈ wsX0_findCosts := by decide +kernel
theorem fl_X0_findCosts_25 : Cond.fieldLink RX0 25 "LaneTrunks" "rootUnit" "[I" ∈ wsX0_findCosts := by decide +kernel
theorem fl_X0_findCosts_28 : Cond.fieldLink RX0 28 "LaneTrunks" "rootCost" "[I" ∈ wsX0_findCosts := by decide +kernel
theorem in_X0_bestWayUp : ∀ w ∈ wsX00, w ∈ wsX0_bestWayUp := fun _ h => List.mem_cons_of_mem _ (List.mem_append_right _ h)
theorem fl_X0_bestWayUp_16 : Cond.fieldLink RX0 16 "LaneTrunks" "farSlot" "[I" ∈ wsX0_bestWayUp := by decide +kernel
theorem fl_X0_bestWayUp_19 : Cond.fieldLink RX0 19 "LaneTrunks" "cableCost" "[I" ∈ wsX0_bestWayUp := by decide +kernel
theorem fl_X0_bestWayUp_28 : Cond.fieldLink RX0 28 "LaneTrunks" "rootCost" "[I" ∈ wsX0_bestWayUp := by decide +kernel
theorem in_X0_lowerSum : ∀ w ∈ wsX00, w ∈ wsX0_lowerSum := fun _ h => List.mem_cons_of_mem _ (List.mem_append_right _ h)
theorem fl_X0_lowerSum_16 : Cond.fieldLink RX0 16 "LaneTrunks" "farSlot" "[I" ∈ wsX0_lowerSum := by decide +kernel
theorem in_X0_forgetWalks : ∀ w ∈ wsX00, w ∈ wsX0_forgetWalks := fun _ h => List.mem_cons_of_mem _ (List.mem_append_right _ h)
theorem fl_X0_forgetWalks_34 : Cond.fieldLink RX0 34 "LaneTrunks" "steps" "[I" ∈ wsX0_forgetWalks := by decide +kernel
theorem fl_X0_forgetWalks_143 : Cond.fieldLink RX0 143 "LaneTrunks" "reachedCount" "I" ∈ wsX0_forgetWalks := by decide +kernel
theorem in_X0_walkFrom : ∀ w ∈ wsX00, w ∈ wsX0_walkFrom := fun _ h => List.mem_cons_of_mem _ (List.mem_append_right _ h)
theorem fl_X0_walkFrom_37 : Cond.fieldLink RX0 37 "LaneTrunks" "reachedPlaces" "[I" ∈ wsX0_walkFrom := by decide +kernel
theorem fl_X0_walkFrom_143 : Cond.fieldLink RX0 143 "LaneTrunks" "reachedCount" "I" ∈ wsX0_walkFrom := by decide +kernel
theorem in_X0_reach : ∀ w ∈ wsX00, w ∈ wsX0_reach := fun _ h => List.mem_cons_of_mem _ (List.mem_append_right _ h)
theorem fl_X0_reach_34 : Cond.fieldLink RX0 34 "LaneTrunks" "steps" "[I" ∈ wsX0_reach := by decide +kernel
theorem fl_X0_reach_37 : Cond.fieldLink RX0 37 "LaneTrunks" "reachedPlaces" "[I" ∈ wsX0_reach := by decide +kernel
theorem fl_X0_reach_143 : Cond.fieldLink RX0 143 "LaneTrunks" "reachedCount" "I" ∈ wsX0_reach := by decide +kernel
theorem in_X0_reachNeighbours : ∀ w ∈ wsX00, w ∈ wsX0_reachNeighbours := fun _ h => List.mem_cons_of_mem _ (List.mem_append_right _ h)
theorem fl_X0_reachNeighbours_34 : Cond.fieldLink RX0 34 "LaneTrunks" "steps" "[I" ∈ wsX0_reachNeighbours := by decide +kernel
theorem in_X0_placeBeyond : ∀ w ∈ wsX00, w ∈ wsX0_placeBeyond := fun _ h => List.mem_cons_of_mem _ (List.mem_append_right _ h)
theorem fl_X0_placeBeyond_16 : Cond.fieldLink RX0 16 "LaneTrunks" "farSlot" "[I" ∈ wsX0_placeBeyond := by decide +kernel
theorem in_X0_isUsed : ∀ w ∈ wsX00, w ∈ wsX0_isUsed := fun _ h => List.mem_cons_of_mem _ (List.mem_append_right _ h)
theorem fl_X0_isUsed_9 : Cond.fieldLink RX0 9 "LaneTrunks" "untaggedLane" "[I" ∈ wsX0_isUsed := by decide +kernel
theorem in_X0_countWays : ∀ w ∈ wsX00, w ∈ wsX0_countWays := fun _ h => List.mem_cons_of_mem _ (List.mem_append_right _ h)
theorem fl_X0_countWays_16 : Cond.fieldLink RX0 16 "LaneTrunks" "farSlot" "[I" ∈ wsX0_countWays := by decide +kernel
theorem in_X0_waysOver : ∀ w ∈ wsX00, w ∈ wsX0_waysOver := fun _ h => List.mem_cons_of_mem _ (List.mem_append_right _ h)
theorem fl_X0_waysOver_9 : Cond.fieldLink RX0 9 "LaneTrunks" "untaggedLane" "[I" ∈ wsX0_waysOver := by decide +kernel
theorem fl_X0_waysOver_13 : Cond.fieldLink RX0 13 "LaneTrunks" "taggedLanes" "[I" ∈ wsX0_waysOver := by decide +kernel
theorem in_X0_changesOver : ∀ w ∈ wsX00, w ∈ wsX0_changesOver := fun _ h => List.mem_cons_of_mem _ (List.mem_append_right _ h)
theorem fl_X0_changesOver_9 : Cond.fieldLink RX0 9 "LaneTrunks" "untaggedLane" "[I" ∈ wsX0_changesOver := by decide +kernel
theorem fl_X0_changesOver_16 : Cond.fieldLink RX0 16 "LaneTrunks" "farSlot" "[I" ∈ wsX0_changesOver := by decide +kernel
theorem in_X1_init : ∀ w ∈ wsX10, w ∈ wsX1_init := fun _ h => List.mem_cons_of_mem _ (List.mem_append_right _ h)
theorem fl_X1_init_7 : Cond.fieldLink RX1 7 "LaneTrunksModel" "untagged" "[I" ∈ wsX1_init := by decide +kernel
theorem fl_X1_init_13 : Cond.fieldLink RX1 13 "LaneTrunksModel" "tagged" "[I" ∈ wsX1_init := by decide +kernel
theorem fl_X1_init_16 : Cond.fieldLink RX1 16 "LaneTrunksModel" "ends" "[I" ∈ wsX1_init := by decide +kernel
theorem fl_X1_init_19 : Cond.fieldLink RX1 19 "LaneTrunksModel" "costs" "[I" ∈ wsX1_init := by decide +kernel
theorem fl_X1_init_22 : Cond.fieldLink RX1 22 "LaneTrunksModel" "books" "[I" ∈ wsX1_init := by decide +kernel
theorem fl_X1_init_25 : Cond.fieldLink RX1 25 "LaneTrunksModel" "roots" "[I" ∈ wsX1_init := by decide +kernel
theorem fl_X1_init_28 : Cond.fieldLink RX1 28 "LaneTrunksModel" "ways" "[I" ∈ wsX1_init := by decide +kernel
theorem fl_X1_init_31 : Cond.fieldLink RX1 31 "LaneTrunksModel" "sums" "[I" ∈ wsX1_init := by decide +kernel
theorem fl_X1_init_34 : Cond.fieldLink RX1 34 "LaneTrunksModel" "steps" "[I" ∈ wsX1_init := by decide +kernel
theorem fl_X1_init_37 : Cond.fieldLink RX1 37 "LaneTrunksModel" "queue" "[I" ∈ wsX1_init := by decide +kernel
theorem fl_X1_init_40 : Cond.fieldLink RX1 40 "LaneTrunksModel" "fewest" "[I" ∈ wsX1_init := by decide +kernel
theorem in_X1_thrown : ∀ w ∈ wsX10, w ∈ wsX1_thrown := fun _ h => List.mem_cons_of_mem _ (List.mem_append_right _ h)
theorem fl_X1_thrown_43 : Cond.fieldLink RX1 43 "LaneTrunksModel" "thrown" "I" ∈ wsX1_thrown := by decide +kernel
theorem in_X1_isTagged : ∀ w ∈ wsX10, w ∈ wsX1_isTagged := fun _ h => List.mem_cons_of_mem _ (List.mem_append_right _ h)
theorem fl_X1_isTagged_13 : Cond.fieldLink RX1 13 "LaneTrunksModel" "tagged" "[I" ∈ wsX1_isTagged := by decide +kernel
theorem in_X1_untag : ∀ w ∈ wsX10, w ∈ wsX1_untag := fun _ h => List.mem_cons_of_mem _ (List.mem_append_right _ h)
theorem fl_X1_untag_7 : Cond.fieldLink RX1 7 "LaneTrunksModel" "untagged" "[I" ∈ wsX1_untag := by decide +kernel
theorem fl_X1_untag_43 : Cond.fieldLink RX1 43 "LaneTrunksModel" "thrown" "I" ∈ wsX1_untag := by decide +kernel
theorem in_X1_tag : ∀ w ∈ wsX10, w ∈ wsX1_tag := fun _ h => List.mem_cons_of_mem _ (List.mem_append_right _ h)
theorem fl_X1_tag_7 : Cond.fieldLink RX1 7 "LaneTrunksModel" "untagged" "[I" ∈ wsX1_tag := by decide +kernel
theorem fl_X1_tag_13 : Cond.fieldLink RX1 13 "LaneTrunksModel" "tagged" "[I" ∈ wsX1_tag := by decide +kernel
theorem fl_X1_tag_43 : Cond.fieldLink RX1 43 "LaneTrunksModel" "thrown" "I" ∈ wsX1_tag := by decide +kernel
theorem in_X1_cable : ∀ w ∈ wsX10, w ∈ wsX1_cable := fun _ h => List.mem_cons_of_mem _ (List.mem_append_right _ h)
theorem fl_X1_cable_16 : Cond.fieldLink RX1 16 "LaneTrunksModel" "ends" "[I" ∈ wsX1_cable := by decide +kernel
theorem fl_X1_cable_19 : Cond.fieldLink RX1 19 "LaneTrunksModel" "costs" "[I" ∈ wsX1_cable := by decide +kernel
theorem fl_X1_cable_43 : Cond.fieldLink RX1 43 "LaneTrunksModel" "thrown" "I" ∈ wsX1_cable := by decide +kernel
theorem fl_X1_cable_61 : Cond.fieldLink RX1 61 "LaneTrunksModel" "cableMany" "I" ∈ wsX1_cable := by decide +kernel
theorem in_X1_hasCable : ∀ w ∈ wsX10, w ∈ wsX1_hasCable := fun _ h => List.mem_cons_of_mem _ (List.mem_append_right _ h)
theorem fl_X1_hasCable_16 : Cond.fieldLink RX1 16 "LaneTrunksModel" "ends" "[I" ∈ wsX1_hasCable := by decide +kernel
theorem fl_X1_hasCable_43 : Cond.fieldLink RX1 43 "LaneTrunksModel" "thrown" "I" ∈ wsX1_hasCable := by decide +kernel
theorem in_X1_pull : ∀ w ∈ wsX10, w ∈ wsX1_pull := fun _ h => List.mem_cons_of_mem _ (List.mem_append_right _ h)
theorem fl_X1_pull_16 : Cond.fieldLink RX1 16 "LaneTrunksModel" "ends" "[I" ∈ wsX1_pull := by decide +kernel
theorem fl_X1_pull_19 : Cond.fieldLink RX1 19 "LaneTrunksModel" "costs" "[I" ∈ wsX1_pull := by decide +kernel
theorem fl_X1_pull_61 : Cond.fieldLink RX1 61 "LaneTrunksModel" "cableMany" "I" ∈ wsX1_pull := by decide +kernel
theorem in_X1_tree : ∀ w ∈ wsX10, w ∈ wsX1_tree := fun _ h => List.mem_cons_of_mem _ (List.mem_append_right _ h)
theorem fl_X1_tree_43 : Cond.fieldLink RX1 43 "LaneTrunksModel" "thrown" "I" ∈ wsX1_tree := by decide +kernel
theorem fl_X1_tree_67 : Cond.fieldLink RX1 67 "LaneTrunksModel" "isTree" "Z" ∈ wsX1_tree := by decide +kernel
theorem in_X1_note : ∀ w ∈ wsX10, w ∈ wsX1_note := fun _ h => List.mem_cons_of_mem _ (List.mem_append_right _ h)
theorem fl_X1_note_22 : Cond.fieldLink RX1 22 "LaneTrunksModel" "books" "[I" ∈ wsX1_note := by decide +kernel
theorem fl_X1_note_43 : Cond.fieldLink RX1 43 "LaneTrunksModel" "thrown" "I" ∈ wsX1_note := by decide +kernel
theorem in_X1_layTree : ∀ w ∈ wsX10, w ∈ wsX1_layTree := fun _ h => List.mem_cons_of_mem _ (List.mem_append_right _ h)
theorem fl_X1_layTree_16 : Cond.fieldLink RX1 16 "LaneTrunksModel" "ends" "[I" ∈ wsX1_layTree := by decide +kernel
theorem fl_X1_layTree_19 : Cond.fieldLink RX1 19 "LaneTrunksModel" "costs" "[I" ∈ wsX1_layTree := by decide +kernel
theorem fl_X1_layTree_25 : Cond.fieldLink RX1 25 "LaneTrunksModel" "roots" "[I" ∈ wsX1_layTree := by decide +kernel
theorem fl_X1_layTree_28 : Cond.fieldLink RX1 28 "LaneTrunksModel" "ways" "[I" ∈ wsX1_layTree := by decide +kernel
theorem fl_X1_layTree_31 : Cond.fieldLink RX1 31 "LaneTrunksModel" "sums" "[I" ∈ wsX1_layTree := by decide +kernel
theorem in_X1_isLive : ∀ w ∈ wsX10, w ∈ wsX1_isLive := fun _ h => List.mem_cons_of_mem _ (List.mem_append_right _ h)
theorem fl_X1_isLive_16 : Cond.fieldLink RX1 16 "LaneTrunksModel" "ends" "[I" ∈ wsX1_isLive := by decide +kernel
theorem fl_X1_isLive_28 : Cond.fieldLink RX1 28 "LaneTrunksModel" "ways" "[I" ∈ wsX1_isLive := by decide +kernel
theorem fl_X1_isLive_67 : Cond.fieldLink RX1 67 "LaneTrunksModel" "isTree" "Z" ∈ wsX1_isLive := by decide +kernel
theorem in_X1_far : ∀ w ∈ wsX10, w ∈ wsX1_far := fun _ h => List.mem_cons_of_mem _ (List.mem_append_right _ h)
theorem fl_X1_far_16 : Cond.fieldLink RX1 16 "LaneTrunksModel" "ends" "[I" ∈ wsX1_far := by decide +kernel
theorem fl_X1_far_43 : Cond.fieldLink RX1 43 "LaneTrunksModel" "thrown" "I" ∈ wsX1_far := by decide +kernel
theorem in_X1_carried : ∀ w ∈ wsX10, w ∈ wsX1_carried := fun _ h => List.mem_cons_of_mem _ (List.mem_append_right _ h)
theorem fl_X1_carried_7 : Cond.fieldLink RX1 7 "LaneTrunksModel" "untagged" "[I" ∈ wsX1_carried := by decide +kernel
theorem fl_X1_carried_16 : Cond.fieldLink RX1 16 "LaneTrunksModel" "ends" "[I" ∈ wsX1_carried := by decide +kernel
theorem in_X1_comesAs : ∀ w ∈ wsX10, w ∈ wsX1_comesAs := fun _ h => List.mem_cons_of_mem _ (List.mem_append_right _ h)
theorem fl_X1_comesAs_43 : Cond.fieldLink RX1 43 "LaneTrunksModel" "thrown" "I" ∈ wsX1_comesAs := by decide +kernel
theorem in_X1_oneSided : ∀ w ∈ wsX10, w ∈ wsX1_oneSided := fun _ h => List.mem_cons_of_mem _ (List.mem_append_right _ h)
theorem fl_X1_oneSided_13 : Cond.fieldLink RX1 13 "LaneTrunksModel" "tagged" "[I" ∈ wsX1_oneSided := by decide +kernel
theorem fl_X1_oneSided_16 : Cond.fieldLink RX1 16 "LaneTrunksModel" "ends" "[I" ∈ wsX1_oneSided := by decide +kernel
theorem in_X1_wrong : ∀ w ∈ wsX10, w ∈ wsX1_wrong := fun _ h => List.mem_cons_of_mem _ (List.mem_append_right _ h)
theorem fl_X1_wrong_16 : Cond.fieldLink RX1 16 "LaneTrunksModel" "ends" "[I" ∈ wsX1_wrong := by decide +kernel
theorem fl_X1_wrong_22 : Cond.fieldLink RX1 22 "LaneTrunksModel" "books" "[I" ∈ wsX1_wrong := by decide +kernel
theorem fl_X1_wrong_43 : Cond.fieldLink RX1 43 "LaneTrunksModel" "thrown" "I" ∈ wsX1_wrong := by decide +kernel
theorem in_X1_asksFor : ∀ w ∈ wsX10, w ∈ wsX1_asksFor := fun _ h => List.mem_cons_of_mem _ (List.mem_append_right _ h)
theorem fl_X1_asksFor_43 : Cond.fieldLink RX1 43 "LaneTrunksModel" "thrown" "I" ∈ wsX1_asksFor := by decide +kernel
theorem in_X1_root : ∀ w ∈ wsX10, w ∈ wsX1_root := fun _ h => List.mem_cons_of_mem _ (List.mem_append_right _ h)
theorem fl_X1_root_25 : Cond.fieldLink RX1 25 "LaneTrunksModel" "roots" "[I" ∈ wsX1_root := by decide +kernel
theorem in_X1_costOf : ∀ w ∈ wsX10, w ∈ wsX1_costOf := fun _ h => List.mem_cons_of_mem _ (List.mem_append_right _ h)
theorem fl_X1_costOf_31 : Cond.fieldLink RX1 31 "LaneTrunksModel" "sums" "[I" ∈ wsX1_costOf := by decide +kernel
theorem in_X1_wayUp : ∀ w ∈ wsX10, w ∈ wsX1_wayUp := fun _ h => List.mem_cons_of_mem _ (List.mem_append_right _ h)
theorem fl_X1_wayUp_28 : Cond.fieldLink RX1 28 "LaneTrunksModel" "ways" "[I" ∈ wsX1_wayUp := by decide +kernel
theorem in_X1_spread : ∀ w ∈ wsX10, w ∈ wsX1_spread := fun _ h => List.mem_cons_of_mem _ (List.mem_append_right _ h)
theorem fl_X1_spread_16 : Cond.fieldLink RX1 16 "LaneTrunksModel" "ends" "[I" ∈ wsX1_spread := by decide +kernel
theorem fl_X1_spread_34 : Cond.fieldLink RX1 34 "LaneTrunksModel" "steps" "[I" ∈ wsX1_spread := by decide +kernel
theorem fl_X1_spread_37 : Cond.fieldLink RX1 37 "LaneTrunksModel" "queue" "[I" ∈ wsX1_spread := by decide +kernel
theorem fl_X1_spread_90 : Cond.fieldLink RX1 90 "LaneTrunksModel" "queued" "I" ∈ wsX1_spread := by decide +kernel
theorem in_X1_hops : ∀ w ∈ wsX10, w ∈ wsX1_hops := fun _ h => List.mem_cons_of_mem _ (List.mem_append_right _ h)
theorem fl_X1_hops_34 : Cond.fieldLink RX1 34 "LaneTrunksModel" "steps" "[I" ∈ wsX1_hops := by decide +kernel
theorem fl_X1_hops_43 : Cond.fieldLink RX1 43 "LaneTrunksModel" "thrown" "I" ∈ wsX1_hops := by decide +kernel
theorem in_X1_meet : ∀ w ∈ wsX10, w ∈ wsX1_meet := fun _ h => List.mem_cons_of_mem _ (List.mem_append_right _ h)
theorem fl_X1_meet_7 : Cond.fieldLink RX1 7 "LaneTrunksModel" "untagged" "[I" ∈ wsX1_meet := by decide +kernel
theorem fl_X1_meet_34 : Cond.fieldLink RX1 34 "LaneTrunksModel" "steps" "[I" ∈ wsX1_meet := by decide +kernel
theorem fl_X1_meet_43 : Cond.fieldLink RX1 43 "LaneTrunksModel" "thrown" "I" ∈ wsX1_meet := by decide +kernel
theorem in_X1_joined : ∀ w ∈ wsX10, w ∈ wsX1_joined := fun _ h => List.mem_cons_of_mem _ (List.mem_append_right _ h)
theorem fl_X1_joined_43 : Cond.fieldLink RX1 43 "LaneTrunksModel" "thrown" "I" ∈ wsX1_joined := by decide +kernel
theorem fl_X1_joined_90 : Cond.fieldLink RX1 90 "LaneTrunksModel" "queued" "I" ∈ wsX1_joined := by decide +kernel
theorem in_X1_isUsed : ∀ w ∈ wsX10, w ∈ wsX1_isUsed := fun _ h => List.mem_cons_of_mem _ (List.mem_append_right _ h)
theorem fl_X1_isUsed_7 : Cond.fieldLink RX1 7 "LaneTrunksModel" "untagged" "[I" ∈ wsX1_isUsed := by decide +kernel
theorem in_X1_islandMany : ∀ w ∈ wsX10, w ∈ wsX1_islandMany := fun _ h => List.mem_cons_of_mem _ (List.mem_append_right _ h)
theorem fl_X1_islandMany_34 : Cond.fieldLink RX1 34 "LaneTrunksModel" "steps" "[I" ∈ wsX1_islandMany := by decide +kernel
theorem in_X1_islands : ∀ w ∈ wsX10, w ∈ wsX1_islands := fun _ h => List.mem_cons_of_mem _ (List.mem_append_right _ h)
theorem fl_X1_islands_43 : Cond.fieldLink RX1 43 "LaneTrunksModel" "thrown" "I" ∈ wsX1_islands := by decide +kernel
theorem in_X1_loops : ∀ w ∈ wsX10, w ∈ wsX1_loops := fun _ h => List.mem_cons_of_mem _ (List.mem_append_right _ h)
theorem fl_X1_loops_16 : Cond.fieldLink RX1 16 "LaneTrunksModel" "ends" "[I" ∈ wsX1_loops := by decide +kernel
theorem fl_X1_loops_43 : Cond.fieldLink RX1 43 "LaneTrunksModel" "thrown" "I" ∈ wsX1_loops := by decide +kernel
theorem in_X1_changesAt : ∀ w ∈ wsX10, w ∈ wsX1_changesAt := fun _ h => List.mem_cons_of_mem _ (List.mem_append_right _ h)
theorem fl_X1_changesAt_7 : Cond.fieldLink RX1 7 "LaneTrunksModel" "untagged" "[I" ∈ wsX1_changesAt := by decide +kernel
theorem fl_X1_changesAt_16 : Cond.fieldLink RX1 16 "LaneTrunksModel" "ends" "[I" ∈ wsX1_changesAt := by decide +kernel
theorem in_X1_changes : ∀ w ∈ wsX10, w ∈ wsX1_changes := fun _ h => List.mem_cons_of_mem _ (List.mem_append_right _ h)
theorem fl_X1_changes_7 : Cond.fieldLink RX1 7 "LaneTrunksModel" "untagged" "[I" ∈ wsX1_changes := by decide +kernel
theorem fl_X1_changes_16 : Cond.fieldLink RX1 16 "LaneTrunksModel" "ends" "[I" ∈ wsX1_changes := by decide +kernel
theorem fl_X1_changes_40 : Cond.fieldLink RX1 40 "LaneTrunksModel" "fewest" "[I" ∈ wsX1_changes := by decide +kernel
theorem fl_X1_changes_43 : Cond.fieldLink RX1 43 "LaneTrunksModel" "thrown" "I" ∈ wsX1_changes := by decide +kernel
