theorem pq_ph35 : True := trivial
