set_option maxRecDepth 20000 in
theorem gB_append_X4_append : GoodIn wsB_append (wsV RL 9 RX4 yX4_append wsX4_append) := gB_V (List.mem_of_getElem? (i := 585) rfl) (List.mem_of_getElem? (i := 586) rfl) (List.mem_of_getElem? (i := 587) rfl) (List.mem_of_getElem? (i := 2) rfl) ggB_X4_append
set_option maxRecDepth 20000 in
theorem gB_load_X4_load : GoodIn wsB_load (wsV RL 23 RX4 yX4_load wsX4_load) := gB_V (List.mem_of_getElem? (i := 616) rfl) (List.mem_of_getElem? (i := 617) rfl) (List.mem_of_getElem? (i := 618) rfl) (List.mem_of_getElem? (i := 2) rfl) ggB_X4_load
set_option maxRecDepth 20000 in
theorem gB_about_X4_about : GoodIn wsB_about (wsV RL 27 RX4 yX4_about wsX4_about) := gB_V (List.mem_of_getElem? (i := 84) rfl) (List.mem_of_getElem? (i := 85) rfl) (List.mem_of_getElem? (i := 86) rfl) (List.mem_of_getElem? (i := 2) rfl) ggB_X4_about
set_option maxRecDepth 20000 in
theorem gB_siteOf_X4_siteOf : GoodIn wsB_siteOf (wsV RL 30 RX4 yX4_siteOf wsX4_siteOf) := gB_V (List.mem_of_getElem? (i := 136) rfl) (List.mem_of_getElem? (i := 137) rfl) (List.mem_of_getElem? (i := 138) rfl) (List.mem_of_getElem? (i := 2) rfl) ggB_X4_siteOf
set_option maxRecDepth 20000 in
theorem gB_since_X4_since : GoodIn wsB_since (wsV RL 38 RX4 yX4_since wsX4_since) := gB_V (List.mem_of_getElem? (i := 169) rfl) (List.mem_of_getElem? (i := 170) rfl) (List.mem_of_getElem? (i := 171) rfl) (List.mem_of_getElem? (i := 2) rfl) ggB_X4_since
set_option maxRecDepth 20000 in
theorem gB_layerOf_X4_layerOf : GoodIn wsB_layerOf (wsV RL 41 RX4 yX4_layerOf wsX4_layerOf) := gB_V (List.mem_of_getElem? (i := 422) rfl) (List.mem_of_getElem? (i := 423) rfl) (List.mem_of_getElem? (i := 424) rfl) (List.mem_of_getElem? (i := 2) rfl) ggB_X4_layerOf
set_option maxRecDepth 20000 in
theorem gB_tubeOf_X4_tubeOf : GoodIn wsB_tubeOf (wsV RL 45 RX4 yX4_tubeOf wsX4_tubeOf) := gB_V (List.mem_of_getElem? (i := 180) rfl) (List.mem_of_getElem? (i := 181) rfl) (List.mem_of_getElem? (i := 182) rfl) (List.mem_of_getElem? (i := 2) rfl) ggB_X4_tubeOf
set_option maxRecDepth 20000 in
theorem gB_pipeOf_X4_pipeOf : GoodIn wsB_pipeOf (wsV RL 48 RX4 yX4_pipeOf wsX4_pipeOf) := gB_V (List.mem_of_getElem? (i := 193) rfl) (List.mem_of_getElem? (i := 194) rfl) (List.mem_of_getElem? (i := 195) rfl) (List.mem_of_getElem? (i := 2) rfl) ggB_X4_pipeOf
set_option maxRecDepth 20000 in
theorem gB_layers_X4_layers : GoodIn wsB_layers (wsV RL 51 RX4 yX4_layers wsX4_layers) := gB_V (List.mem_of_getElem? (i := 449) rfl) (List.mem_of_getElem? (i := 450) rfl) (List.mem_of_getElem? (i := 451) rfl) (List.mem_of_getElem? (i := 2) rfl) ggB_X4_layers
set_option maxRecDepth 20000 in
theorem gB_oldest_X4_oldest : GoodIn wsB_oldest (wsV RL 54 RX4 yX4_oldest wsX4_oldest) := gB_V (List.mem_of_getElem? (i := 515) rfl) (List.mem_of_getElem? (i := 516) rfl) (List.mem_of_getElem? (i := 517) rfl) (List.mem_of_getElem? (i := 2) rfl) ggB_X4_oldest
set_option maxRecDepth 20000 in
theorem gB_site_X4_site : GoodIn wsB_site (wsV RL 57 RX4 yX4_site wsX4_site) := gB_V (List.mem_of_getElem? (i := 556) rfl) (List.mem_of_getElem? (i := 557) rfl) (List.mem_of_getElem? (i := 558) rfl) (List.mem_of_getElem? (i := 2) rfl) ggB_X4_site
set_option maxRecDepth 20000 in
theorem gB_tube_X4_tube : GoodIn wsB_tube (wsV RL 60 RX4 yX4_tube wsX4_tube) := gB_V (List.mem_of_getElem? (i := 465) rfl) (List.mem_of_getElem? (i := 466) rfl) (List.mem_of_getElem? (i := 467) rfl) (List.mem_of_getElem? (i := 2) rfl) ggB_X4_tube
set_option maxRecDepth 20000 in
theorem gB_pipe_X4_pipe : GoodIn wsB_pipe (wsV RL 63 RX4 yX4_pipe wsX4_pipe) := gB_V (List.mem_of_getElem? (i := 486) rfl) (List.mem_of_getElem? (i := 487) rfl) (List.mem_of_getElem? (i := 488) rfl) (List.mem_of_getElem? (i := 2) rfl) ggB_X4_pipe
set_option maxRecDepth 20000 in
theorem gB_fence_X4_fence : GoodIn wsB_fence (wsV RL 66 RX4 yX4_fence wsX4_fence) := gB_V (List.mem_of_getElem? (i := 493) rfl) (List.mem_of_getElem? (i := 494) rfl) (List.mem_of_getElem? (i := 495) rfl) (List.mem_of_getElem? (i := 2) rfl) ggB_X4_fence
set_option maxRecDepth 20000 in
theorem gB_shovel_X4_shovel : GoodIn wsB_shovel (wsV RL 69 RX4 yX4_shovel wsX4_shovel) := gB_V (List.mem_of_getElem? (i := 527) rfl) (List.mem_of_getElem? (i := 528) rfl) (List.mem_of_getElem? (i := 529) rfl) (List.mem_of_getElem? (i := 2) rfl) ggB_X4_shovel
set_option maxRecDepth 20000 in
theorem gB_days_X4_days : GoodIn wsB_days (wsV RL 72 RX4 yX4_days wsX4_days) := gB_V (List.mem_of_getElem? (i := 534) rfl) (List.mem_of_getElem? (i := 535) rfl) (List.mem_of_getElem? (i := 536) rfl) (List.mem_of_getElem? (i := 2) rfl) ggB_X4_days
set_option maxRecDepth 20000 in
theorem gB_set_X4_set : GoodIn wsB_set (wsV RL 75 RX4 yX4_set wsX4_set) := gB_V (List.mem_of_getElem? (i := 541) rfl) (List.mem_of_getElem? (i := 542) rfl) (List.mem_of_getElem? (i := 543) rfl) (List.mem_of_getElem? (i := 2) rfl) ggB_X4_set
set_option maxRecDepth 20000 in
theorem gB_undo_X4_undo : GoodIn wsB_undo (wsV RL 78 RX4 yX4_undo wsX4_undo) := gB_V (List.mem_of_getElem? (i := 637) rfl) (List.mem_of_getElem? (i := 638) rfl) (List.mem_of_getElem? (i := 639) rfl) (List.mem_of_getElem? (i := 2) rfl) ggB_X4_undo
set_option maxRecDepth 20000 in
theorem gB_goneIn_X4_goneIn : GoodIn wsB_goneIn (wsV RL 81 RX4 yX4_goneIn wsX4_goneIn) := gB_V (List.mem_of_getElem? (i := 269) rfl) (List.mem_of_getElem? (i := 270) rfl) (List.mem_of_getElem? (i := 271) rfl) (List.mem_of_getElem? (i := 2) rfl) ggB_X4_goneIn
set_option maxRecDepth 20000 in
theorem gB_reachedIn_X4_reachedIn : GoodIn wsB_reachedIn (wsV RL 84 RX4 yX4_reachedIn wsX4_reachedIn) := gB_V (List.mem_of_getElem? (i := 500) rfl) (List.mem_of_getElem? (i := 501) rfl) (List.mem_of_getElem? (i := 502) rfl) (List.mem_of_getElem? (i := 2) rfl) ggB_X4_reachedIn
set_option maxRecDepth 20000 in
theorem gB_bestFence_X4_bestFence : GoodIn wsB_bestFence (wsV RL 87 RX4 yX4_bestFence wsX4_bestFence) := gB_V (List.mem_of_getElem? (i := 507) rfl) (List.mem_of_getElem? (i := 508) rfl) (List.mem_of_getElem? (i := 509) rfl) (List.mem_of_getElem? (i := 2) rfl) ggB_X4_bestFence
set_option maxRecDepth 20000 in
theorem gB_heaveIn_X4_heaveIn : GoodIn wsB_heaveIn (wsV RL 91 RX4 yX4_heaveIn wsX4_heaveIn) := gB_V (List.mem_of_getElem? (i := 548) rfl) (List.mem_of_getElem? (i := 549) rfl) (List.mem_of_getElem? (i := 550) rfl) (List.mem_of_getElem? (i := 2) rfl) ggB_X4_heaveIn
set_option maxRecDepth 20000 in
theorem gB_script_X4_runScript : GoodIn wsB_script (wsV RL 94 RX4 yX4_runScript wsX4_runScript) := gB_V (List.mem_of_getElem? (i := 398) rfl) (List.mem_of_getElem? (i := 399) rfl) (List.mem_of_getElem? (i := 400) rfl) (List.mem_of_getElem? (i := 2) rfl) ggB_X4_runScript
set_option maxRecDepth 20000 in
theorem gB_simulate_X4_simulate : GoodIn wsB_simulate (wsV RL 98 RX4 yX4_simulate wsX4_simulate) := gB_V (List.mem_of_getElem? (i := 319) rfl) (List.mem_of_getElem? (i := 320) rfl) (List.mem_of_getElem? (i := 321) rfl) (List.mem_of_getElem? (i := 2) rfl) ggB_X4_simulate
set_option maxRecDepth 20000 in
theorem gB_save_X4_save : GoodIn wsB_save (wsV RL 102 RX4 yX4_save wsX4_save) := gB_V (List.mem_of_getElem? (i := 563) rfl) (List.mem_of_getElem? (i := 564) rfl) (List.mem_of_getElem? (i := 565) rfl) (List.mem_of_getElem? (i := 2) rfl) ggB_X4_save
set_option maxRecDepth 20000 in
theorem gB_restore_X4_restore : GoodIn wsB_restore (wsV RL 105 RX4 yX4_restore wsX4_restore) := gB_V (List.mem_of_getElem? (i := 574) rfl) (List.mem_of_getElem? (i := 575) rfl) (List.mem_of_getElem? (i := 576) rfl) (List.mem_of_getElem? (i := 2) rfl) ggB_X4_restore
set_option maxRecDepth 20000 in
theorem gB_now_L_about : GoodIn wsB_now (va_wsS RL 112 yL_about wsB_about) := gB_S (List.mem_of_getElem? (i := 79) rfl) (List.mem_of_getElem? (i := 80) rfl) (List.mem_of_getElem? (i := 65) rfl) (List.mem_of_getElem? (i := 81) rfl)
set_option maxRecDepth 20000 in
theorem gB_now_L_siteOf : GoodIn wsB_now (va_wsS RL 117 yL_siteOf wsB_siteOf) := gB_S (List.mem_of_getElem? (i := 131) rfl) (List.mem_of_getElem? (i := 132) rfl) (List.mem_of_getElem? (i := 65) rfl) (List.mem_of_getElem? (i := 133) rfl)
set_option maxRecDepth 20000 in
theorem gB_now_L_since : GoodIn wsB_now (va_wsS RL 120 yL_since wsB_since) := gB_S (List.mem_of_getElem? (i := 166) rfl) (List.mem_of_getElem? (i := 167) rfl) (List.mem_of_getElem? (i := 65) rfl) (List.mem_of_getElem? (i := 168) rfl)
set_option maxRecDepth 20000 in
theorem gB_now_L_tubeOf : GoodIn wsB_now (va_wsS RL 122 yL_tubeOf wsB_tubeOf) := gB_S (List.mem_of_getElem? (i := 177) rfl) (List.mem_of_getElem? (i := 178) rfl) (List.mem_of_getElem? (i := 65) rfl) (List.mem_of_getElem? (i := 179) rfl)
set_option maxRecDepth 20000 in
theorem gB_now_L_pipeOf : GoodIn wsB_now (va_wsS RL 126 yL_pipeOf wsB_pipeOf) := gB_S (List.mem_of_getElem? (i := 190) rfl) (List.mem_of_getElem? (i := 191) rfl) (List.mem_of_getElem? (i := 65) rfl) (List.mem_of_getElem? (i := 192) rfl)
set_option maxRecDepth 20000 in
theorem gB_errors_L_now : GoodIn wsB_errors (va_wsS RL 128 yL_now wsB_now) := gB_S (List.mem_of_getElem? (i := 73) rfl) (List.mem_of_getElem? (i := 74) rfl) (List.mem_of_getElem? (i := 65) rfl) (List.mem_of_getElem? (i := 75) rfl)
set_option maxRecDepth 20000 in
theorem gB_errors_L_about : GoodIn wsB_errors (va_wsS RL 112 yL_about wsB_about) := gB_S (List.mem_of_getElem? (i := 79) rfl) (List.mem_of_getElem? (i := 80) rfl) (List.mem_of_getElem? (i := 65) rfl) (List.mem_of_getElem? (i := 81) rfl)
set_option maxRecDepth 20000 in
theorem gB_errors_L_siteOf : GoodIn wsB_errors (va_wsS RL 117 yL_siteOf wsB_siteOf) := gB_S (List.mem_of_getElem? (i := 131) rfl) (List.mem_of_getElem? (i := 132) rfl) (List.mem_of_getElem? (i := 65) rfl) (List.mem_of_getElem? (i := 133) rfl)
set_option maxRecDepth 20000 in
theorem gB_errors_L_since : GoodIn wsB_errors (va_wsS RL 120 yL_since wsB_since) := gB_S (List.mem_of_getElem? (i := 166) rfl) (List.mem_of_getElem? (i := 167) rfl) (List.mem_of_getElem? (i := 65) rfl) (List.mem_of_getElem? (i := 168) rfl)
set_option maxRecDepth 20000 in
theorem gB_errors_L_layerOf : GoodIn wsB_errors (va_wsS RL 132 yL_layerOf wsB_layerOf) := gB_S (List.mem_of_getElem? (i := 419) rfl) (List.mem_of_getElem? (i := 420) rfl) (List.mem_of_getElem? (i := 65) rfl) (List.mem_of_getElem? (i := 421) rfl)
set_option maxRecDepth 20000 in
theorem gB_errors_L_layers : GoodIn wsB_errors (va_wsS RL 135 yL_layers wsB_layers) := gB_S (List.mem_of_getElem? (i := 446) rfl) (List.mem_of_getElem? (i := 447) rfl) (List.mem_of_getElem? (i := 65) rfl) (List.mem_of_getElem? (i := 448) rfl)
set_option maxRecDepth 20000 in
theorem gB_errors_L_tube : GoodIn wsB_errors (va_wsS RL 137 yL_tube wsB_tube) := gB_S (List.mem_of_getElem? (i := 461) rfl) (List.mem_of_getElem? (i := 462) rfl) (List.mem_of_getElem? (i := 65) rfl) (List.mem_of_getElem? (i := 463) rfl)
set_option maxRecDepth 20000 in
theorem gB_errors_L_pipe : GoodIn wsB_errors (va_wsS RL 139 yL_pipe wsB_pipe) := gB_S (List.mem_of_getElem? (i := 483) rfl) (List.mem_of_getElem? (i := 484) rfl) (List.mem_of_getElem? (i := 65) rfl) (List.mem_of_getElem? (i := 485) rfl)
set_option maxRecDepth 20000 in
theorem gB_errors_L_fence : GoodIn wsB_errors (va_wsS RL 141 yL_fence wsB_fence) := gB_S (List.mem_of_getElem? (i := 490) rfl) (List.mem_of_getElem? (i := 491) rfl) (List.mem_of_getElem? (i := 65) rfl) (List.mem_of_getElem? (i := 492) rfl)
set_option maxRecDepth 20000 in
theorem gB_errors_L_goneIn : GoodIn wsB_errors (va_wsS RL 143 yL_goneIn wsB_goneIn) := gB_S (List.mem_of_getElem? (i := 266) rfl) (List.mem_of_getElem? (i := 267) rfl) (List.mem_of_getElem? (i := 65) rfl) (List.mem_of_getElem? (i := 268) rfl)
set_option maxRecDepth 20000 in
theorem gB_errors_L_reachedIn : GoodIn wsB_errors (va_wsS RL 145 yL_reachedIn wsB_reachedIn) := gB_S (List.mem_of_getElem? (i := 497) rfl) (List.mem_of_getElem? (i := 498) rfl) (List.mem_of_getElem? (i := 65) rfl) (List.mem_of_getElem? (i := 499) rfl)
set_option maxRecDepth 20000 in
theorem gB_errors_L_bestFence : GoodIn wsB_errors (va_wsS RL 147 yL_bestFence wsB_bestFence) := gB_S (List.mem_of_getElem? (i := 504) rfl) (List.mem_of_getElem? (i := 505) rfl) (List.mem_of_getElem? (i := 65) rfl) (List.mem_of_getElem? (i := 506) rfl)
set_option maxRecDepth 20000 in
theorem gB_errors_L_tubeOf : GoodIn wsB_errors (va_wsS RL 122 yL_tubeOf wsB_tubeOf) := gB_S (List.mem_of_getElem? (i := 177) rfl) (List.mem_of_getElem? (i := 178) rfl) (List.mem_of_getElem? (i := 65) rfl) (List.mem_of_getElem? (i := 179) rfl)
set_option maxRecDepth 20000 in
theorem gB_errors_L_pipeOf : GoodIn wsB_errors (va_wsS RL 126 yL_pipeOf wsB_pipeOf) := gB_S (List.mem_of_getElem? (i := 190) rfl) (List.mem_of_getElem? (i := 191) rfl) (List.mem_of_getElem? (i := 65) rfl) (List.mem_of_getElem? (i := 192) rfl)
set_option maxRecDepth 20000 in
theorem gB_errors_L_oldest : GoodIn wsB_errors (va_wsS RL 150 yL_oldest wsB_oldest) := gB_S (List.mem_of_getElem? (i := 512) rfl) (List.mem_of_getElem? (i := 513) rfl) (List.mem_of_getElem? (i := 65) rfl) (List.mem_of_getElem? (i := 514) rfl)
set_option maxRecDepth 20000 in
theorem gB_errors_L_shovel : GoodIn wsB_errors (va_wsS RL 152 yL_shovel wsB_shovel) := gB_S (List.mem_of_getElem? (i := 524) rfl) (List.mem_of_getElem? (i := 525) rfl) (List.mem_of_getElem? (i := 65) rfl) (List.mem_of_getElem? (i := 526) rfl)
set_option maxRecDepth 20000 in
theorem gB_errors_L_days : GoodIn wsB_errors (va_wsS RL 154 yL_days wsB_days) := gB_S (List.mem_of_getElem? (i := 531) rfl) (List.mem_of_getElem? (i := 532) rfl) (List.mem_of_getElem? (i := 65) rfl) (List.mem_of_getElem? (i := 533) rfl)
set_option maxRecDepth 20000 in
theorem gB_errors_L_set : GoodIn wsB_errors (va_wsS RL 156 yL_set wsB_set) := gB_S (List.mem_of_getElem? (i := 538) rfl) (List.mem_of_getElem? (i := 539) rfl) (List.mem_of_getElem? (i := 65) rfl) (List.mem_of_getElem? (i := 540) rfl)
set_option maxRecDepth 20000 in
theorem gB_errors_L_heaveIn : GoodIn wsB_errors (va_wsS RL 158 yL_heaveIn wsB_heaveIn) := gB_S (List.mem_of_getElem? (i := 545) rfl) (List.mem_of_getElem? (i := 546) rfl) (List.mem_of_getElem? (i := 65) rfl) (List.mem_of_getElem? (i := 547) rfl)
set_option maxRecDepth 20000 in
theorem gB_errors_L_site : GoodIn wsB_errors (va_wsS RL 160 yL_site wsB_site) := gB_S (List.mem_of_getElem? (i := 553) rfl) (List.mem_of_getElem? (i := 554) rfl) (List.mem_of_getElem? (i := 65) rfl) (List.mem_of_getElem? (i := 555) rfl)
set_option maxRecDepth 20000 in
theorem gB_errors_L_script : GoodIn wsB_errors (va_wsS RL 162 yL_script wsB_script) := gB_S (List.mem_of_getElem? (i := 395) rfl) (List.mem_of_getElem? (i := 396) rfl) (List.mem_of_getElem? (i := 65) rfl) (List.mem_of_getElem? (i := 397) rfl)
set_option maxRecDepth 20000 in
theorem gB_errors_L_simulate : GoodIn wsB_errors (va_wsS RL 168 yL_simulate wsB_simulate) := gB_S (List.mem_of_getElem? (i := 316) rfl) (List.mem_of_getElem? (i := 317) rfl) (List.mem_of_getElem? (i := 65) rfl) (List.mem_of_getElem? (i := 318) rfl)
set_option maxRecDepth 20000 in
theorem gB_errors_L_save : GoodIn wsB_errors (va_wsS RL 171 yL_save wsB_save) := gB_S (List.mem_of_getElem? (i := 560) rfl) (List.mem_of_getElem? (i := 561) rfl) (List.mem_of_getElem? (i := 65) rfl) (List.mem_of_getElem? (i := 562) rfl)
set_option maxRecDepth 20000 in
theorem gB_errors_L_restore : GoodIn wsB_errors (va_wsS RL 173 yL_restore wsB_restore) := gB_S (List.mem_of_getElem? (i := 571) rfl) (List.mem_of_getElem? (i := 572) rfl) (List.mem_of_getElem? (i := 65) rfl) (List.mem_of_getElem? (i := 573) rfl)
set_option maxRecDepth 20000 in
theorem gB_errors_L_append : GoodIn wsB_errors (va_wsS RL 175 yL_append wsB_append) := gB_S (List.mem_of_getElem? (i := 582) rfl) (List.mem_of_getElem? (i := 583) rfl) (List.mem_of_getElem? (i := 65) rfl) (List.mem_of_getElem? (i := 584) rfl)
set_option maxRecDepth 20000 in
theorem gB_kept_L_about : GoodIn wsB_kept (va_wsS RL 112 yL_about wsB_about) := gB_S (List.mem_of_getElem? (i := 79) rfl) (List.mem_of_getElem? (i := 80) rfl) (List.mem_of_getElem? (i := 65) rfl) (List.mem_of_getElem? (i := 81) rfl)
set_option maxRecDepth 20000 in
theorem gB_kept_L_layers : GoodIn wsB_kept (va_wsS RL 135 yL_layers wsB_layers) := gB_S (List.mem_of_getElem? (i := 446) rfl) (List.mem_of_getElem? (i := 447) rfl) (List.mem_of_getElem? (i := 65) rfl) (List.mem_of_getElem? (i := 448) rfl)
set_option maxRecDepth 20000 in
theorem gB_kept_L_layerOf : GoodIn wsB_kept (va_wsS RL 132 yL_layerOf wsB_layerOf) := gB_S (List.mem_of_getElem? (i := 419) rfl) (List.mem_of_getElem? (i := 420) rfl) (List.mem_of_getElem? (i := 65) rfl) (List.mem_of_getElem? (i := 421) rfl)
set_option maxRecDepth 20000 in
theorem gB_kept_L_since : GoodIn wsB_kept (va_wsS RL 120 yL_since wsB_since) := gB_S (List.mem_of_getElem? (i := 166) rfl) (List.mem_of_getElem? (i := 167) rfl) (List.mem_of_getElem? (i := 65) rfl) (List.mem_of_getElem? (i := 168) rfl)
set_option maxRecDepth 20000 in
theorem gB_kept_L_siteOf : GoodIn wsB_kept (va_wsS RL 117 yL_siteOf wsB_siteOf) := gB_S (List.mem_of_getElem? (i := 131) rfl) (List.mem_of_getElem? (i := 132) rfl) (List.mem_of_getElem? (i := 65) rfl) (List.mem_of_getElem? (i := 133) rfl)
set_option maxRecDepth 20000 in
theorem gB_kept_L_in : GoodIn wsB_kept (va_wsS RL 183 yL_in wsB_in) := gB_S (List.mem_of_getElem? (i := 600) rfl) (List.mem_of_getElem? (i := 601) rfl) (List.mem_of_getElem? (i := 65) rfl) (List.mem_of_getElem? (i := 602) rfl)
set_option maxRecDepth 20000 in
theorem gB_kept_L_tubeOf : GoodIn wsB_kept (va_wsS RL 122 yL_tubeOf wsB_tubeOf) := gB_S (List.mem_of_getElem? (i := 177) rfl) (List.mem_of_getElem? (i := 178) rfl) (List.mem_of_getElem? (i := 65) rfl) (List.mem_of_getElem? (i := 179) rfl)
set_option maxRecDepth 20000 in
theorem gB_kept_L_pipeOf : GoodIn wsB_kept (va_wsS RL 126 yL_pipeOf wsB_pipeOf) := gB_S (List.mem_of_getElem? (i := 190) rfl) (List.mem_of_getElem? (i := 191) rfl) (List.mem_of_getElem? (i := 65) rfl) (List.mem_of_getElem? (i := 192) rfl)
set_option maxRecDepth 20000 in
theorem gB_kept_L_oldest : GoodIn wsB_kept (va_wsS RL 150 yL_oldest wsB_oldest) := gB_S (List.mem_of_getElem? (i := 512) rfl) (List.mem_of_getElem? (i := 513) rfl) (List.mem_of_getElem? (i := 65) rfl) (List.mem_of_getElem? (i := 514) rfl)
set_option maxRecDepth 20000 in
theorem gB_kept_X4_deepest : GoodIn wsB_kept (wsV RL 187 RX4 yX4_deepest wsX4_deepest) := gB_V (List.mem_of_getElem? (i := 259) rfl) (List.mem_of_getElem? (i := 260) rfl) (List.mem_of_getElem? (i := 261) rfl) (List.mem_of_getElem? (i := 2) rfl) ggB_X4_deepest
set_option maxRecDepth 20000 in
theorem gB_follows_L_now : GoodIn wsB_follows (va_wsS RL 128 yL_now wsB_now) := gB_S (List.mem_of_getElem? (i := 73) rfl) (List.mem_of_getElem? (i := 74) rfl) (List.mem_of_getElem? (i := 65) rfl) (List.mem_of_getElem? (i := 75) rfl)
set_option maxRecDepth 20000 in
theorem gB_follows_L_save : GoodIn wsB_follows (va_wsS RL 171 yL_save wsB_save) := gB_S (List.mem_of_getElem? (i := 560) rfl) (List.mem_of_getElem? (i := 561) rfl) (List.mem_of_getElem? (i := 65) rfl) (List.mem_of_getElem? (i := 562) rfl)
set_option maxRecDepth 20000 in
theorem gB_follows_L_about : GoodIn wsB_follows (va_wsS RL 112 yL_about wsB_about) := gB_S (List.mem_of_getElem? (i := 79) rfl) (List.mem_of_getElem? (i := 80) rfl) (List.mem_of_getElem? (i := 65) rfl) (List.mem_of_getElem? (i := 81) rfl)
set_option maxRecDepth 20000 in
theorem gB_follows_L_simulate : GoodIn wsB_follows (va_wsS RL 168 yL_simulate wsB_simulate) := gB_S (List.mem_of_getElem? (i := 316) rfl) (List.mem_of_getElem? (i := 317) rfl) (List.mem_of_getElem? (i := 65) rfl) (List.mem_of_getElem? (i := 318) rfl)
set_option maxRecDepth 20000 in
theorem gB_follows_L_goneIn : GoodIn wsB_follows (va_wsS RL 143 yL_goneIn wsB_goneIn) := gB_S (List.mem_of_getElem? (i := 266) rfl) (List.mem_of_getElem? (i := 267) rfl) (List.mem_of_getElem? (i := 65) rfl) (List.mem_of_getElem? (i := 268) rfl)
set_option maxRecDepth 20000 in
theorem gB_follows_L_days : GoodIn wsB_follows (va_wsS RL 154 yL_days wsB_days) := gB_S (List.mem_of_getElem? (i := 531) rfl) (List.mem_of_getElem? (i := 532) rfl) (List.mem_of_getElem? (i := 65) rfl) (List.mem_of_getElem? (i := 533) rfl)
set_option maxRecDepth 20000 in
theorem gB_follows_L_siteOf : GoodIn wsB_follows (va_wsS RL 117 yL_siteOf wsB_siteOf) := gB_S (List.mem_of_getElem? (i := 131) rfl) (List.mem_of_getElem? (i := 132) rfl) (List.mem_of_getElem? (i := 65) rfl) (List.mem_of_getElem? (i := 133) rfl)
set_option maxRecDepth 20000 in
theorem gB_follows_L_undo : GoodIn wsB_follows (va_wsS RL 194 yL_undo wsB_undo) := gB_S (List.mem_of_getElem? (i := 634) rfl) (List.mem_of_getElem? (i := 635) rfl) (List.mem_of_getElem? (i := 65) rfl) (List.mem_of_getElem? (i := 636) rfl)
set_option maxRecDepth 20000 in
theorem gB_follows_L_reachedIn : GoodIn wsB_follows (va_wsS RL 145 yL_reachedIn wsB_reachedIn) := gB_S (List.mem_of_getElem? (i := 497) rfl) (List.mem_of_getElem? (i := 498) rfl) (List.mem_of_getElem? (i := 65) rfl) (List.mem_of_getElem? (i := 499) rfl)
set_option maxRecDepth 20000 in
theorem gB_follows_L_since : GoodIn wsB_follows (va_wsS RL 120 yL_since wsB_since) := gB_S (List.mem_of_getElem? (i := 166) rfl) (List.mem_of_getElem? (i := 167) rfl) (List.mem_of_getElem? (i := 65) rfl) (List.mem_of_getElem? (i := 168) rfl)
set_option maxRecDepth 20000 in
theorem gB_follows_L_bestFence : GoodIn wsB_follows (va_wsS RL 147 yL_bestFence wsB_bestFence) := gB_S (List.mem_of_getElem? (i := 504) rfl) (List.mem_of_getElem? (i := 505) rfl) (List.mem_of_getElem? (i := 65) rfl) (List.mem_of_getElem? (i := 506) rfl)
set_option maxRecDepth 20000 in
theorem gB_follows_L_fence : GoodIn wsB_follows (va_wsS RL 141 yL_fence wsB_fence) := gB_S (List.mem_of_getElem? (i := 490) rfl) (List.mem_of_getElem? (i := 491) rfl) (List.mem_of_getElem? (i := 65) rfl) (List.mem_of_getElem? (i := 492) rfl)
set_option maxRecDepth 20000 in
theorem gB_follows_L_in : GoodIn wsB_follows (va_wsS RL 183 yL_in wsB_in) := gB_S (List.mem_of_getElem? (i := 600) rfl) (List.mem_of_getElem? (i := 601) rfl) (List.mem_of_getElem? (i := 65) rfl) (List.mem_of_getElem? (i := 602) rfl)
set_option maxRecDepth 20000 in
theorem gB_follows_L_heaveIn : GoodIn wsB_follows (va_wsS RL 158 yL_heaveIn wsB_heaveIn) := gB_S (List.mem_of_getElem? (i := 545) rfl) (List.mem_of_getElem? (i := 546) rfl) (List.mem_of_getElem? (i := 65) rfl) (List.mem_of_getElem? (i := 547) rfl)
set_option maxRecDepth 20000 in
theorem gB_follows_L_pipeOf : GoodIn wsB_follows (va_wsS RL 126 yL_pipeOf wsB_pipeOf) := gB_S (List.mem_of_getElem? (i := 190) rfl) (List.mem_of_getElem? (i := 191) rfl) (List.mem_of_getElem? (i := 65) rfl) (List.mem_of_getElem? (i := 192) rfl)
set_option maxRecDepth 20000 in
theorem gB_follows_L_restore : GoodIn wsB_follows (va_wsS RL 173 yL_restore wsB_restore) := gB_S (List.mem_of_getElem? (i := 571) rfl) (List.mem_of_getElem? (i := 572) rfl) (List.mem_of_getElem? (i := 65) rfl) (List.mem_of_getElem? (i := 573) rfl)
set_option maxRecDepth 20000 in
theorem gB_alike_L_now : GoodIn wsB_alike (va_wsS RL 128 yL_now wsB_now) := gB_S (List.mem_of_getElem? (i := 73) rfl) (List.mem_of_getElem? (i := 74) rfl) (List.mem_of_getElem? (i := 65) rfl) (List.mem_of_getElem? (i := 75) rfl)
set_option maxRecDepth 20000 in
theorem gB_alike_X4_errorPosition : GoodIn wsB_alike (wsV RL 198 RX4 yX4_errorPosition wsX4_errorPosition) := gB_V (List.mem_of_getElem? (i := 209) rfl) (List.mem_of_getElem? (i := 210) rfl) (List.mem_of_getElem? (i := 211) rfl) (List.mem_of_getElem? (i := 2) rfl) ggB_X4_errorPosition
set_option maxRecDepth 20000 in
theorem gB_alike_X4_deepest : GoodIn wsB_alike (wsV RL 187 RX4 yX4_deepest wsX4_deepest) := gB_V (List.mem_of_getElem? (i := 259) rfl) (List.mem_of_getElem? (i := 260) rfl) (List.mem_of_getElem? (i := 261) rfl) (List.mem_of_getElem? (i := 2) rfl) ggB_X4_deepest
set_option maxRecDepth 20000 in
theorem gB_alike_L_goneIn : GoodIn wsB_alike (va_wsS RL 143 yL_goneIn wsB_goneIn) := gB_S (List.mem_of_getElem? (i := 266) rfl) (List.mem_of_getElem? (i := 267) rfl) (List.mem_of_getElem? (i := 65) rfl) (List.mem_of_getElem? (i := 268) rfl)
set_option maxRecDepth 20000 in
theorem gB_alike_L_simulate : GoodIn wsB_alike (va_wsS RL 168 yL_simulate wsB_simulate) := gB_S (List.mem_of_getElem? (i := 316) rfl) (List.mem_of_getElem? (i := 317) rfl) (List.mem_of_getElem? (i := 65) rfl) (List.mem_of_getElem? (i := 318) rfl)
set_option maxRecDepth 20000 in
theorem gB_alike_L_script : GoodIn wsB_alike (va_wsS RL 162 yL_script wsB_script) := gB_S (List.mem_of_getElem? (i := 395) rfl) (List.mem_of_getElem? (i := 396) rfl) (List.mem_of_getElem? (i := 65) rfl) (List.mem_of_getElem? (i := 397) rfl)
set_option maxRecDepth 20000 in
theorem gB_says_L_append : GoodIn wsB_says (va_wsS RL 175 yL_append wsB_append) := gB_S (List.mem_of_getElem? (i := 582) rfl) (List.mem_of_getElem? (i := 583) rfl) (List.mem_of_getElem? (i := 65) rfl) (List.mem_of_getElem? (i := 584) rfl)
set_option maxRecDepth 20000 in
theorem gB_told_X4_clearText : GoodIn wsB_told (wsV RL 203 RX4 yX4_clearText wsX4_clearText) := gB_V (List.mem_of_getElem? (i := 606) rfl) (List.mem_of_getElem? (i := 607) rfl) (List.mem_of_getElem? (i := 608) rfl) (List.mem_of_getElem? (i := 2) rfl) ggB_X4_clearText
set_option maxRecDepth 20000 in
theorem gB_told_L_append : GoodIn wsB_told (va_wsS RL 175 yL_append wsB_append) := gB_S (List.mem_of_getElem? (i := 582) rfl) (List.mem_of_getElem? (i := 583) rfl) (List.mem_of_getElem? (i := 65) rfl) (List.mem_of_getElem? (i := 584) rfl)
set_option maxRecDepth 20000 in
theorem gB_told_L_says : GoodIn wsB_told (va_wsS RL 206 yL_says wsB_says) := gB_S (List.mem_of_getElem? (i := 610) rfl) (List.mem_of_getElem? (i := 611) rfl) (List.mem_of_getElem? (i := 65) rfl) (List.mem_of_getElem? (i := 612) rfl)
set_option maxRecDepth 20000 in
theorem gB_told_X4_errorPosition : GoodIn wsB_told (wsV RL 198 RX4 yX4_errorPosition wsX4_errorPosition) := gB_V (List.mem_of_getElem? (i := 209) rfl) (List.mem_of_getElem? (i := 210) rfl) (List.mem_of_getElem? (i := 211) rfl) (List.mem_of_getElem? (i := 2) rfl) ggB_X4_errorPosition
set_option maxRecDepth 20000 in
theorem gB_act_L_site : GoodIn wsB_act (va_wsS RL 160 yL_site wsB_site) := gB_S (List.mem_of_getElem? (i := 553) rfl) (List.mem_of_getElem? (i := 554) rfl) (List.mem_of_getElem? (i := 65) rfl) (List.mem_of_getElem? (i := 555) rfl)
set_option maxRecDepth 20000 in
theorem gB_act_L_tube : GoodIn wsB_act (va_wsS RL 137 yL_tube wsB_tube) := gB_S (List.mem_of_getElem? (i := 461) rfl) (List.mem_of_getElem? (i := 462) rfl) (List.mem_of_getElem? (i := 65) rfl) (List.mem_of_getElem? (i := 463) rfl)
set_option maxRecDepth 20000 in
theorem gB_act_L_pipe : GoodIn wsB_act (va_wsS RL 139 yL_pipe wsB_pipe) := gB_S (List.mem_of_getElem? (i := 483) rfl) (List.mem_of_getElem? (i := 484) rfl) (List.mem_of_getElem? (i := 65) rfl) (List.mem_of_getElem? (i := 485) rfl)
set_option maxRecDepth 20000 in
theorem gB_act_L_fence : GoodIn wsB_act (va_wsS RL 141 yL_fence wsB_fence) := gB_S (List.mem_of_getElem? (i := 490) rfl) (List.mem_of_getElem? (i := 491) rfl) (List.mem_of_getElem? (i := 65) rfl) (List.mem_of_getElem? (i := 492) rfl)
set_option maxRecDepth 20000 in
theorem gB_act_L_shovel : GoodIn wsB_act (va_wsS RL 152 yL_shovel wsB_shovel) := gB_S (List.mem_of_getElem? (i := 524) rfl) (List.mem_of_getElem? (i := 525) rfl) (List.mem_of_getElem? (i := 65) rfl) (List.mem_of_getElem? (i := 526) rfl)
set_option maxRecDepth 20000 in
theorem gB_act_L_set : GoodIn wsB_act (va_wsS RL 156 yL_set wsB_set) := gB_S (List.mem_of_getElem? (i := 538) rfl) (List.mem_of_getElem? (i := 539) rfl) (List.mem_of_getElem? (i := 65) rfl) (List.mem_of_getElem? (i := 540) rfl)
set_option maxRecDepth 20000 in
theorem gB_act_X4_winter : GoodIn wsB_act (wsV RL 210 RX4 yX4_winter wsX4_winter) := gB_V (List.mem_of_getElem? (i := 630) rfl) (List.mem_of_getElem? (i := 631) rfl) (List.mem_of_getElem? (i := 632) rfl) (List.mem_of_getElem? (i := 2) rfl) ggB_X4_winter
set_option maxRecDepth 20000 in
theorem gB_act_L_undo : GoodIn wsB_act (va_wsS RL 194 yL_undo wsB_undo) := gB_S (List.mem_of_getElem? (i := 634) rfl) (List.mem_of_getElem? (i := 635) rfl) (List.mem_of_getElem? (i := 65) rfl) (List.mem_of_getElem? (i := 636) rfl)
set_option maxRecDepth 20000 in
theorem gB_act_L_save : GoodIn wsB_act (va_wsS RL 171 yL_save wsB_save) := gB_S (List.mem_of_getElem? (i := 560) rfl) (List.mem_of_getElem? (i := 561) rfl) (List.mem_of_getElem? (i := 65) rfl) (List.mem_of_getElem? (i := 562) rfl)
set_option maxRecDepth 20000 in
theorem gB_act_L_restore : GoodIn wsB_act (va_wsS RL 173 yL_restore wsB_restore) := gB_S (List.mem_of_getElem? (i := 571) rfl) (List.mem_of_getElem? (i := 572) rfl) (List.mem_of_getElem? (i := 65) rfl) (List.mem_of_getElem? (i := 573) rfl)
set_option maxRecDepth 20000 in
theorem gB_act_L_days : GoodIn wsB_act (va_wsS RL 154 yL_days wsB_days) := gB_S (List.mem_of_getElem? (i := 531) rfl) (List.mem_of_getElem? (i := 532) rfl) (List.mem_of_getElem? (i := 65) rfl) (List.mem_of_getElem? (i := 533) rfl)
